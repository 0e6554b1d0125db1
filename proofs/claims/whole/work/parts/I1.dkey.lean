/-! ===== dsaKeys of the class: the small polynomials ===== -/
/-- the small polynomial with number t -/
def lm_xS (C : lm_CX) (K : Nat → Int32) (e t : Nat) : Nat × (Nat → Int) := lm_s4 e (lm_B12 C (ln_g6 K 32 (Int32.ofNat t))) 962
def lm_xb (s : Nat) : Nat := if lm_de s = 2 then 3 else 4
theorem lm_xb_b (s : Nat) : 3 ≤ lm_xb s ∧ lm_xb s ≤ 4 := by
  unfold lm_xb
  split <;> omega
theorem lm_dkl {s : Nat} (hs : s ≤ 2) : lm_dk s ≤ 8 ∧ lm_dl s ≤ 7 ∧ 4 ≤ lm_dk s ∧ 4 ≤ lm_dl s := by
  match s, hs with
  | 0, _ => decide
  | 1, _ => decide
  | 2, _ => decide
/-- what choose has set -/
def lm_DC (m : lm_MI) (s : Nat) : Prop := m 76 17 = Int32.ofNat s ∧ m 76 18 = Int32.ofNat (lm_dk s) ∧ m 76 19 = Int32.ofNat (lm_dl s)
section LMDK
variable {xs : List Int32} {C : lm_CX} {d s : Nat} {m m0 : lm_MI} {n n0 : lm_ML} {x : lm_H × Nat × Nat}
def lm_I17 (C : lm_CX) (e : Nat) (m0 : lm_MI) (n0 : lm_ML) (t : Nat) (m : lm_MI) (n : lm_ML) : Prop := (∀ r, (r < 5 ∨ 22 < r) → r ≠ 188 → r ≠ 190 → (r < 136 ∨ 150 < r) → m r = m0 r) ∧ lm_fN m0 n0 m n ∧ ∀ t', t' < t → (lm_xS C (m0 189) e t').1 = 256 ∧ ∀ c, c < 256 → m (136 + t') c = Int32.ofInt ((lm_xS C (m0 189) e t').2 c)
def lm_E17 (C : lm_CX) (e b : Nat) (m0 : lm_MI) (n0 : lm_ML) (x : lm_H × Nat × Nat) (R : Except Nat lm_R × lm_S) : Prop := ∃ m n, R = (.error (lm_xp x), lm_w m n (lm_xx 15 x)) ∧ (∀ r, (r < 5 ∨ 22 < r) → r ≠ 188 → r ≠ 190 → (r < 136 ∨ 150 < r) → m r = m0 r) ∧ lm_fN m0 n0 m n ∧ ∃ t, t < b ∧ (lm_xS C (m0 189) e t).1 ≠ 256
theorem lm_l166a (hC : lm_Cok xs C) (hr : ln_rt m) (hx : lm_rom x) (hs : s ≤ 2) (h : lm_DC m s) : (∃ m' n', lm_I17 C (lm_de s) m n (lm_dl s + lm_dk s) m' n' ∧ ∀ R, lm_rn (lm_sc xs) (d + 6) lm_m166.2.2.2.2.1 (lm_reg lm_m166.2.2.2.2.2) (17, [(0, .ref 76), (2, .ref 28), (3, .ref 30), (4, .int (Int32.ofNat (lm_dl s + lm_dk s)))], []) (lm_w m' n' x) = some R → lm_rn (lm_sc xs) (d + 6) lm_m166.2.2.2.2.1 (lm_reg lm_m166.2.2.2.2.2) (17, [(0, .ref 76), (2, .ref 28), (3, .ref 30), (4, .int (Int32.ofNat 0))], []) (lm_w m n x) = some R) ∨ ∃ R, lm_E17 C (lm_de s) (lm_dl s + lm_dk s) m n x R ∧ lm_rn (lm_sc xs) (d + 6) lm_m166.2.2.2.2.1 (lm_reg lm_m166.2.2.2.2.2) (17, [(0, .ref 76), (2, .ref 28), (3, .ref 30), (4, .int (Int32.ofNat 0))], []) (lm_w m n x) = some R := by
  have hkl := lm_dkl hs
  refine lm_lpe (sc := lm_sc xs) (d := d + 6) (b := lm_dl s + lm_dk s) (hs := lm_m166.2.2.2.2.1) (code := lm_reg lm_m166.2.2.2.2.2) (x := x) (fr := fun t => (17, [(0, .ref 76), (2, .ref 28), (3, .ref 30), (4, .int (Int32.ofNat t))], [])) (I := fun t m' n' => lm_I17 C (lm_de s) m n t m' n') (E := lm_E17 C (lm_de s) (lm_dl s + lm_dk s) m n x) (fun t ht m1 n1 ⟨g1, g2, g3⟩ => ?_) (lm_dl s + lm_dk s) 0 (by omega) m n ⟨fun _ _ _ _ _ => rfl, .rf, fun t' ht' => absurd ht' (by omega)⟩
  have e76 : m1 76 = m 76 := g1 76 (by decide) (by decide) (by decide) (by decide)
  have e189 : m1 189 = m 189 := g1 189 (by decide) (by decide) (by decide) (by decide)
  have pre : ∀ R, lm_bind (lm_asV (lm_cal (lm_sc xs) (d + 6) 233 [.ref 76, .ref (136 + t), .int (Int32.ofNat t)])) (fun _ => lm_rn (lm_sc xs) (d + 6) lm_m166.2.2.2.2.1 (lm_reg lm_m166.2.2.2.2.2) (17, [(0, .ref 76), (2, .ref 28), (3, .ref 30), (4, .int (Int32.ofNat t + Int32.ofInt 1))], [])) (lm_w m1 n1 x) = some R → lm_rn (lm_sc xs) (d + 6) lm_m166.2.2.2.2.1 (lm_reg lm_m166.2.2.2.2.2) (17, [(0, .ref 76), (2, .ref 28), (3, .ref 30), (4, .int (Int32.ofNat t))], []) (lm_w m1 n1 x) = some R := by
    intro R K
    refine lm_e166_17 ?_
    unfold lm_q166_17
    repeat (first
    | ((with_reducible apply lm_sI); exact rfl)
    | ((with_reducible apply lm_sR); exact rfl)
    | ((with_reducible apply lm_sS); exact rfl; exact rfl)
    | ((with_reducible apply lm_sL); exact rfl)
    | ((with_reducible apply lm_sP); exact rfl; exact rfl)
    | ((with_reducible apply lm_sPL); exact rfl; exact rfl)
    | ((with_reducible apply lm_sAA); exact rfl; exact rfl)
    | ((with_reducible apply lm_sA); (first | exact rfl | assumption); omega)
    | ((with_reducible apply lm_sJ); (first | exact rfl | assumption); omega)
    | ((with_reducible apply lm_sB); (first | exact rfl | assumption); omega)
    | ((with_reducible apply lm_wA); (first | exact rfl | assumption); omega)
    | ((with_reducible apply lm_wJ); (first | exact rfl | assumption); omega)
    | ((with_reducible apply lm_wB); (first | exact rfl | assumption); omega)
    | ((with_reducible apply lm_sAl); (first | exact rfl | assumption); omega)
    | ((with_reducible apply lm_iW); decide))
    simp only [Nat.reduceDiv, Nat.reduceMod]
    rw [e76, h.2.1, h.2.2, lm_oo]
    refine lm_geF (by omega) (by omega) (by omega) ?_
    repeat (first
    | ((with_reducible apply lm_sI); exact rfl)
    | ((with_reducible apply lm_sR); exact rfl)
    | ((with_reducible apply lm_sS); exact rfl; exact rfl)
    | ((with_reducible apply lm_sL); exact rfl)
    | ((with_reducible apply lm_sP); exact rfl; exact rfl)
    | ((with_reducible apply lm_sPL); exact rfl; exact rfl)
    | ((with_reducible apply lm_sAA); exact rfl; exact rfl)
    | ((with_reducible apply lm_sA); (first | exact rfl | assumption); omega)
    | ((with_reducible apply lm_sJ); (first | exact rfl | assumption); omega)
    | ((with_reducible apply lm_sB); (first | exact rfl | assumption); omega)
    | ((with_reducible apply lm_wA); (first | exact rfl | assumption); omega)
    | ((with_reducible apply lm_wJ); (first | exact rfl | assumption); omega)
    | ((with_reducible apply lm_wB); (first | exact rfl | assumption); omega)
    | ((with_reducible apply lm_sAl); (first | exact rfl | assumption); omega)
    | ((with_reducible apply lm_iW); decide))
    refine lm_sAA rfl (lm_roS t (by omega)) ?_
    repeat (first
    | ((with_reducible apply lm_sI); exact rfl)
    | ((with_reducible apply lm_sR); exact rfl)
    | ((with_reducible apply lm_sS); exact rfl; exact rfl)
    | ((with_reducible apply lm_sL); exact rfl)
    | ((with_reducible apply lm_sP); exact rfl; exact rfl)
    | ((with_reducible apply lm_sPL); exact rfl; exact rfl)
    | ((with_reducible apply lm_sAA); exact rfl; exact rfl)
    | ((with_reducible apply lm_sA); (first | exact rfl | assumption); omega)
    | ((with_reducible apply lm_sJ); (first | exact rfl | assumption); omega)
    | ((with_reducible apply lm_sB); (first | exact rfl | assumption); omega)
    | ((with_reducible apply lm_wA); (first | exact rfl | assumption); omega)
    | ((with_reducible apply lm_wJ); (first | exact rfl | assumption); omega)
    | ((with_reducible apply lm_wB); (first | exact rfl | assumption); omega)
    | ((with_reducible apply lm_sAl); (first | exact rfl | assumption); omega)
    | ((with_reducible apply lm_iW); decide))
    exact K
  obtain ⟨m2, n2, f1, f2, f3, f4, f5⟩ := lm_u233 (xs := xs) (d := d + 1) (n := n1) (x := x) (m := m1) (p := 136 + t) (s := s) (w := Int32.ofNat t) hC (g2.rt hr) hs (by rw [e76]; exact h.1) (lm_arS t (by omega)) (by omega) (by omega)
  rw [e189] at f3 f4 f5
  have ek : lm_s4 (lm_de s) (lm_B12 C (ln_g6 (m 189) 32 (Int32.ofNat t))) 962 = lm_xS C (m 189) (lm_de s) t := rfl
  rw [ek] at f3 f4 f5
  have fr1 : ∀ r, (r < 5 ∨ 22 < r) → r ≠ 188 → r ≠ 190 → (r < 136 ∨ 150 < r) → m2 r = m r := fun r h1 h2 h3 h4 => by rw [f1 r h1 h2 h3 (by omega), g1 r h1 h2 h3 h4]
  by_cases c : (lm_xS C (m 189) (lm_de s) t).1 = 256
  · refine Or.inl ⟨m2, n2, ⟨fr1, g2.tr f2, fun t' ht' => ?_⟩, fun R K => pre R (lm_cV (f4 c) (by rw [lm_K1, lm_oo]; exact K))⟩
    by_cases c0 : t' = t
    · subst c0
      exact ⟨c, fun i hi => f3 i (by rw [c]; exact hi)⟩
    · obtain ⟨b1, b2⟩ := g3 t' (by omega)
      exact ⟨b1, fun i hi => by rw [f1 (136 + t') (by omega) (by omega) (by omega) (by omega)]; exact b2 i hi⟩
  · exact Or.inr ⟨_, ⟨m2, n2, rfl, fr1, g2.tr f2, t, ht, c⟩, pre _ (lm_cVe (f5 c hx))⟩
/-- the small polynomials packed -/
theorem lm_l166b {b0 : Nat} {V : Nat → Nat → Int} (hs : s ≤ 2) (h : lm_DC m s) (hV : ∀ t, t < lm_dl s + lm_dk s → ∀ c, c < 256 → m (136 + t) c = Int32.ofInt (V t c) ∧ -(lm_de s : Int) ≤ V t c ∧ V t c ≤ lm_de s) (hb0 : b0 ≤ 128) : ∃ m', (∀ r, r ≠ 187 → r ≠ 31 → m' r = m r) ∧ (∀ j, j < b0 → m' 31 j = m 31 j) ∧ (∀ j, j < 32 * lm_xb s * (lm_dl s + lm_dk s) → lm_yb (m' 31 (b0 + j)) = lm_pkB (fun t c => (lm_de s : Int) - V t c) (lm_xb s) j) ∧ ∀ R, lm_rn (lm_sc xs) (d + 6) lm_m166.2.2.2.2.1 (lm_reg lm_m166.2.2.2.2.2) (105, [(0, .ref 76), (2, .ref 28), (3, .ref 30), (4, .int (Int32.ofNat (b0 + 32 * lm_xb s * (lm_dl s + lm_dk s)))), (5, .int (Int32.ofNat (lm_dl s + lm_dk s)))], []) (lm_w m' n x) = some R → lm_rn (lm_sc xs) (d + 6) lm_m166.2.2.2.2.1 (lm_reg lm_m166.2.2.2.2.2) (105, [(0, .ref 76), (2, .ref 28), (3, .ref 30), (4, .int (Int32.ofNat (b0 + 32 * lm_xb s * 0))), (5, .int (Int32.ofNat 0))], []) (lm_w m n x) = some R := by
  have hkl := lm_dkl hs
  have hxb := lm_xb_b s
  have hde := lm_de_2 hs
  obtain ⟨m', n', ⟨en, h0, h1, h2⟩, k1⟩ := lm_lp (sc := lm_sc xs) (d := d + 6) (b := lm_dl s + lm_dk s) (hs := lm_m166.2.2.2.2.1) (code := lm_reg lm_m166.2.2.2.2.2) (x := x) (fr := fun t => (105, [(0, .ref 76), (2, .ref 28), (3, .ref 30), (4, .int (Int32.ofNat (b0 + 32 * lm_xb s * t))), (5, .int (Int32.ofNat t))], [])) (I := fun t m' n' => n' = n ∧ (∀ r, r ≠ 187 → r ≠ 31 → m' r = m r) ∧ (∀ j, j < b0 → m' 31 j = m 31 j) ∧ ∀ j, j < 32 * lm_xb s * t → lm_yb (m' 31 (b0 + j)) = lm_pkB (fun t c => (lm_de s : Int) - V t c) (lm_xb s) j) (fun t ht m1 n1 ⟨en, h0, h1, h2⟩ => by
    have hat : 32 * lm_xb s * t + 32 * lm_xb s ≤ 32 * 4 * 15 := by
      rw [← Nat.mul_succ]
      exact Nat.mul_le_mul (Nat.mul_le_mul_left _ hxb.2) (by omega)
    have e76 : m1 76 = m 76 := h0 76 (by decide) (by decide)
    have h17 : m1 76 17 = Int32.ofNat s := by rw [e76]; exact h.1
    obtain ⟨m2, c2, f2, a2, b2⟩ := lm_u235 (sc := lm_sc xs) (d := d + 4) (n := n1) (x := x) (m := m1) (p := 136 + t) (q := 31) (v := 65536) (a := b0 + 32 * lm_xb s * t) (bits := lm_xb s) (B := (lm_de s : Int)) (V := V t) rfl (by decide) (by decide) (lm_arS t (by omega)) (by omega) (by omega) (by omega) (by omega) (fun c hc => by
      obtain ⟨v1, v2, v3⟩ := hV t ht c hc
      refine ⟨by rw [h0 _ (by omega) (by omega)]; exact v1, by omega, ?_⟩
      unfold lm_xb
      rcases hde with e0 | e0
      · rw [if_pos e0, show (2 ^ 3 : Nat) = 8 from rfl]
        omega
      · rw [if_neg (by omega), show (2 ^ 4 : Nat) = 16 from rfl]
        omega)
    have h17' : m2 76 17 = Int32.ofNat s := by rw [f2 76 (by decide) (by decide)]; exact h17
    refine ⟨m2, n1, ⟨en, fun r r1 r2 => by rw [f2 r r1 r2, h0 r r1 r2], fun j hj => by rw [a2 j (by omega), h1 j hj], fun j hj => ?_⟩, fun R K => lm_e166_105 ?_⟩
    · rw [Nat.mul_succ] at hj
      by_cases c0 : j < 32 * lm_xb s * t
      · rw [a2 _ (by omega)]
        exact h2 j c0
      · have := b2 (j - 32 * lm_xb s * t) (by omega)
        rw [show b0 + 32 * lm_xb s * t + (j - 32 * lm_xb s * t) = b0 + j by omega] at this
        rw [this, show lm_pkB (fun t c => (lm_de s : Int) - V t c) (lm_xb s) j = lm_pkB (fun t c => (lm_de s : Int) - V t c) (lm_xb s) (32 * lm_xb s * t + (j - 32 * lm_xb s * t)) by rw [show 32 * lm_xb s * t + (j - 32 * lm_xb s * t) = j by omega], lm_pkB_at (by omega)]
    · unfold lm_q166_105
      repeat (first
    | ((with_reducible apply lm_sI); exact rfl)
    | ((with_reducible apply lm_sR); exact rfl)
    | ((with_reducible apply lm_sS); exact rfl; exact rfl)
    | ((with_reducible apply lm_sL); exact rfl)
    | ((with_reducible apply lm_sP); exact rfl; exact rfl)
    | ((with_reducible apply lm_sPL); exact rfl; exact rfl)
    | ((with_reducible apply lm_sAA); exact rfl; exact rfl)
    | ((with_reducible apply lm_sA); (first | exact rfl | assumption); omega)
    | ((with_reducible apply lm_sJ); (first | exact rfl | assumption); omega)
    | ((with_reducible apply lm_sB); (first | exact rfl | assumption); omega)
    | ((with_reducible apply lm_wA); (first | exact rfl | assumption); omega)
    | ((with_reducible apply lm_wJ); (first | exact rfl | assumption); omega)
    | ((with_reducible apply lm_wB); (first | exact rfl | assumption); omega)
    | ((with_reducible apply lm_sAl); (first | exact rfl | assumption); omega)
    | ((with_reducible apply lm_iW); decide))
      simp only [Nat.reduceDiv, Nat.reduceMod]
      rw [e76, h.2.1, h.2.2, lm_oo]
      refine lm_geF (by omega) (by omega) (by omega) ?_
      repeat (first
    | ((with_reducible apply lm_sI); exact rfl)
    | ((with_reducible apply lm_sR); exact rfl)
    | ((with_reducible apply lm_sS); exact rfl; exact rfl)
    | ((with_reducible apply lm_sL); exact rfl)
    | ((with_reducible apply lm_sP); exact rfl; exact rfl)
    | ((with_reducible apply lm_sPL); exact rfl; exact rfl)
    | ((with_reducible apply lm_sAA); exact rfl; exact rfl)
    | ((with_reducible apply lm_sA); (first | exact rfl | assumption); omega)
    | ((with_reducible apply lm_sJ); (first | exact rfl | assumption); omega)
    | ((with_reducible apply lm_sB); (first | exact rfl | assumption); omega)
    | ((with_reducible apply lm_wA); (first | exact rfl | assumption); omega)
    | ((with_reducible apply lm_wJ); (first | exact rfl | assumption); omega)
    | ((with_reducible apply lm_wB); (first | exact rfl | assumption); omega)
    | ((with_reducible apply lm_sAl); (first | exact rfl | assumption); omega)
    | ((with_reducible apply lm_iW); decide))
      simp only [Nat.reduceDiv, Nat.reduceMod]
      rw [h17]
      refine lm_eta hs ?_
      repeat (first
    | ((with_reducible apply lm_sI); exact rfl)
    | ((with_reducible apply lm_sR); exact rfl)
    | ((with_reducible apply lm_sS); exact rfl; exact rfl)
    | ((with_reducible apply lm_sL); exact rfl)
    | ((with_reducible apply lm_sP); exact rfl; exact rfl)
    | ((with_reducible apply lm_sPL); exact rfl; exact rfl)
    | ((with_reducible apply lm_sAA); exact rfl; exact rfl)
    | ((with_reducible apply lm_sA); (first | exact rfl | assumption); omega)
    | ((with_reducible apply lm_sJ); (first | exact rfl | assumption); omega)
    | ((with_reducible apply lm_sB); (first | exact rfl | assumption); omega)
    | ((with_reducible apply lm_wA); (first | exact rfl | assumption); omega)
    | ((with_reducible apply lm_wJ); (first | exact rfl | assumption); omega)
    | ((with_reducible apply lm_wB); (first | exact rfl | assumption); omega)
    | ((with_reducible apply lm_sAl); (first | exact rfl | assumption); omega)
    | ((with_reducible apply lm_iW); decide))
      refine lm_sAA rfl (lm_roS t (by omega)) ?_
      repeat (first
    | ((with_reducible apply lm_sI); exact rfl)
    | ((with_reducible apply lm_sR); exact rfl)
    | ((with_reducible apply lm_sS); exact rfl; exact rfl)
    | ((with_reducible apply lm_sL); exact rfl)
    | ((with_reducible apply lm_sP); exact rfl; exact rfl)
    | ((with_reducible apply lm_sPL); exact rfl; exact rfl)
    | ((with_reducible apply lm_sAA); exact rfl; exact rfl)
    | ((with_reducible apply lm_sA); (first | exact rfl | assumption); omega)
    | ((with_reducible apply lm_sJ); (first | exact rfl | assumption); omega)
    | ((with_reducible apply lm_sB); (first | exact rfl | assumption); omega)
    | ((with_reducible apply lm_wA); (first | exact rfl | assumption); omega)
    | ((with_reducible apply lm_wJ); (first | exact rfl | assumption); omega)
    | ((with_reducible apply lm_wB); (first | exact rfl | assumption); omega)
    | ((with_reducible apply lm_sAl); (first | exact rfl | assumption); omega)
    | ((with_reducible apply lm_iW); decide))
      refine lm_cI (lm_u234 (d := d + 5) hs h17) ?_
      repeat (first
    | ((with_reducible apply lm_sI); exact rfl)
    | ((with_reducible apply lm_sR); exact rfl)
    | ((with_reducible apply lm_sS); exact rfl; exact rfl)
    | ((with_reducible apply lm_sL); exact rfl)
    | ((with_reducible apply lm_sP); exact rfl; exact rfl)
    | ((with_reducible apply lm_sPL); exact rfl; exact rfl)
    | ((with_reducible apply lm_sAA); exact rfl; exact rfl)
    | ((with_reducible apply lm_sA); (first | exact rfl | assumption); omega)
    | ((with_reducible apply lm_sJ); (first | exact rfl | assumption); omega)
    | ((with_reducible apply lm_sB); (first | exact rfl | assumption); omega)
    | ((with_reducible apply lm_wA); (first | exact rfl | assumption); omega)
    | ((with_reducible apply lm_wJ); (first | exact rfl | assumption); omega)
    | ((with_reducible apply lm_wB); (first | exact rfl | assumption); omega)
    | ((with_reducible apply lm_sAl); (first | exact rfl | assumption); omega)
    | ((with_reducible apply lm_iW); decide))
      rw [lm_oN (lm_de s)]
      refine lm_cV c2 ?_
      repeat (first
    | ((with_reducible apply lm_sI); exact rfl)
    | ((with_reducible apply lm_sR); exact rfl)
    | ((with_reducible apply lm_sS); exact rfl; exact rfl)
    | ((with_reducible apply lm_sL); exact rfl)
    | ((with_reducible apply lm_sP); exact rfl; exact rfl)
    | ((with_reducible apply lm_sPL); exact rfl; exact rfl)
    | ((with_reducible apply lm_sAA); exact rfl; exact rfl)
    | ((with_reducible apply lm_sA); (first | exact rfl | assumption); omega)
    | ((with_reducible apply lm_sJ); (first | exact rfl | assumption); omega)
    | ((with_reducible apply lm_sB); (first | exact rfl | assumption); omega)
    | ((with_reducible apply lm_wA); (first | exact rfl | assumption); omega)
    | ((with_reducible apply lm_wJ); (first | exact rfl | assumption); omega)
    | ((with_reducible apply lm_wB); (first | exact rfl | assumption); omega)
    | ((with_reducible apply lm_sAl); (first | exact rfl | assumption); omega)
    | ((with_reducible apply lm_iW); decide))
      refine lm_cI (lm_u234 (d := d + 5) hs h17') ?_
      rw [lm_K32, lm_om, lm_oo, lm_K1, lm_oo]
      rw [Nat.mul_succ, ← Nat.add_assoc] at K
      exact K) (lm_dl s + lm_dk s) 0 (by omega) m n ⟨rfl, fun _ _ _ => rfl, fun _ _ => rfl, fun j hj => absurd hj (by omega)⟩
  subst en
  exact ⟨m', h0, h1, h2, k1⟩
end LMDK
