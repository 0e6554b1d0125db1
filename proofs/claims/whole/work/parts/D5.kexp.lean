/-! ===== the class: expand, hashPair, hashPublic, fill ===== -/
/-- a polynomial of the matrix -/
def lm_kA (C : lm_CX) (s : Nat → Int32) (a w1 w2 : Nat) : Nat × (Nat → Nat) := lm_sm (lm_B11 C (ln_gs s a (Int32.ofNat w1) (Int32.ofNat w2))) 280
theorem lm_arK : ∀ t, t < 16 → lm_ar (48 + t) = some (0, 256) := by decide
theorem lm_roK : ∀ t, t < 16 → ([49, 50, 51, 52, 53, 54, 55, 56, 57, 58, 59, 60, 61, 62, 63, 64] : List Nat)[t]? = some (48 + t + 1) := by decide
theorem lm_arV : ∀ t, t < 4 → lm_ar (65 + t) = some (0, 256) := by decide
theorem lm_roV : ∀ t, t < 4 → ([66, 67, 68, 69] : List Nat)[t]? = some (65 + t + 1) := by decide
section LMKX
variable {xs : List Int32} {C : lm_CX} {d k q v a : Nat} {m : lm_MI} {n : lm_ML} {x : lm_H × Nat × Nat} {G : Nat → Int32}
/-- fill of ints -/
theorem lm_u287 {sc : lm_H} {p : Nat} (hp : lm_ar p = some (0, 256)) : ∃ m', lm_cal sc (d + 1) 287 [.ref p, .int (Int32.ofInt 0)] (lm_w m n x) = some (.ok none, lm_w m' n x) ∧ lm_PA m m' p (fun _ => 0) := by
  obtain ⟨m', n', ⟨hn, h0, h1⟩, h2⟩ := lm_lp (sc := sc) (d := d) (b := 256) (hs := lm_m287.2.2.2.2.1) (code := lm_reg lm_m287.2.2.2.2.2) (x := x) (fr := fun i => (5, [(0, .ref p), (1, .int (Int32.ofInt 0)), (2, .int (Int32.ofNat i)), (3, .int (Int32.ofNat 256))], [])) (I := fun i m' n' => n' = n ∧ (∀ q, q ≠ p → m' q = m q) ∧ ∀ j, j < i → m' p j = Int32.ofInt 0) (fun i hi m1 n1 ⟨en, h0, h1⟩ => by
    refine ⟨?m', ?n', ?_, fun R K => lm_e287_5 ?run⟩
    case run =>
      unfold lm_q287_5
      refine lm_geF (by omega) (by omega) (by omega) ?_
      repeat (first
    | ((with_reducible apply lm_sI); exact rfl)
    | ((with_reducible apply lm_sR); exact rfl)
    | ((with_reducible apply lm_sS); exact rfl; exact rfl)
    | ((with_reducible apply lm_sL); exact rfl)
    | ((with_reducible apply lm_sP); exact rfl; exact rfl)
    | ((with_reducible apply lm_sPL); exact rfl; exact rfl)
    | ((with_reducible apply lm_sAA); exact rfl; exact rfl)
    | ((with_reducible apply lm_sA); (first | exact rfl | assumption); omega)
    | ((with_reducible apply lm_sJ); (first | exact rfl | assumption); omega)
    | ((with_reducible apply lm_sB); (first | exact rfl | assumption); omega)
    | ((with_reducible apply lm_wA); (first | exact rfl | assumption); omega)
    | ((with_reducible apply lm_wJ); (first | exact rfl | assumption); omega)
    | ((with_reducible apply lm_wB); (first | exact rfl | assumption); omega)
    | ((with_reducible apply lm_sAl); (first | exact rfl | assumption); omega)
    | ((with_reducible apply lm_iW); decide))
      rw [lm_K1, lm_oo]
      exact K
    · refine ⟨en, fun q hq => (lm_u_row hq).trans (h0 q hq), fun j hj => ?_⟩
      by_cases c : j = i
      · subst c
        rw [lm_u_eq]
      · rw [lm_u_ne (by omega)]
        exact h1 j (by omega)) 256 0 (by omega) m n ⟨rfl, fun _ _ => rfl, fun j hj => absurd hj (by omega)⟩
  subst hn
  refine ⟨m', ?_, h0, h1⟩
  refine lm_cal_of (Y := lm_m287) rfl rfl (lm_e287_0 ?_)
  unfold lm_q287_0
  repeat (first
    | ((with_reducible apply lm_sI); exact rfl)
    | ((with_reducible apply lm_sR); exact rfl)
    | ((with_reducible apply lm_sS); exact rfl; exact rfl)
    | ((with_reducible apply lm_sL); exact rfl)
    | ((with_reducible apply lm_sP); exact rfl; exact rfl)
    | ((with_reducible apply lm_sPL); exact rfl; exact rfl)
    | ((with_reducible apply lm_sAA); exact rfl; exact rfl)
    | ((with_reducible apply lm_sA); (first | exact rfl | assumption); omega)
    | ((with_reducible apply lm_sJ); (first | exact rfl | assumption); omega)
    | ((with_reducible apply lm_sB); (first | exact rfl | assumption); omega)
    | ((with_reducible apply lm_wA); (first | exact rfl | assumption); omega)
    | ((with_reducible apply lm_wJ); (first | exact rfl | assumption); omega)
    | ((with_reducible apply lm_wB); (first | exact rfl | assumption); omega)
    | ((with_reducible apply lm_sAl); (first | exact rfl | assumption); omega)
    | ((with_reducible apply lm_iW); decide))
  rw [lm_K0] at h2 ⊢
  refine h2 _ (lm_e287_5 ?_)
  unfold lm_q287_5
  exact lm_geT (by omega) (by omega) (by omega) rfl
/-- what holds in expand at (i, j) -/
def lm_I216 (C : lm_CX) (k q a : Nat) (m0 : lm_MI) (n0 : lm_ML) (i j : Nat) (m : lm_MI) (n : lm_ML) : Prop := (∀ r, (r < 5 ∨ 22 < r) → r ≠ 71 → r ≠ 72 → (r < 48 ∨ 63 < r) → m r = m0 r) ∧ lm_fN m0 n0 m n ∧ (∀ t, t < 32 → lm_b8 (m 72 t) = lm_b8 (m0 q (a + t))) ∧ ∀ i' j', j' < k → (i' < i ∨ (i' = i ∧ j' < j)) → (lm_kA C (m0 q) a j' i').1 = 256 ∧ ∀ c, c < 256 → m (48 + (i' * k + j')) c = Int32.ofNat ((lm_kA C (m0 q) a j' i').2 c)
/-- how expand ends where a polynomial can't be had -/
def lm_E216 (C : lm_CX) (k q a : Nat) (m0 : lm_MI) (n0 : lm_ML) (x : lm_H × Nat × Nat) (R : Except Nat lm_R × lm_S) : Prop := ∃ m n, R = (.error (lm_xp x), lm_w m n (lm_xx 15 x)) ∧ (∀ r, (r < 5 ∨ 22 < r) → r ≠ 71 → r ≠ 72 → (r < 48 ∨ 63 < r) → m r = m0 r) ∧ lm_fN m0 n0 m n ∧ ∃ i j, i < k ∧ j < k ∧ (lm_kA C (m0 q) a j i).1 ≠ 256
theorem lm_l216j {i : Nat} (hC : lm_Cok xs C) (hr : ln_rt m) (hx : lm_rom x) (hk : m 44 12 = Int32.ofNat k) (hk2 : k ≤ 4) (hi : i < k) {m1 : lm_MI} {n1 : lm_ML} (h : lm_I216 C k q a m n i 0 m1 n1) : (∃ m' n', lm_I216 C k q a m n i k m' n' ∧ ∀ R, lm_rn (lm_sc xs) (d + 5) lm_m216.2.2.2.2.1 (lm_reg lm_m216.2.2.2.2.2) (25, [(0, .ref 44), (3, .int (Int32.ofNat i)), (4, .int (Int32.ofNat k))], []) (lm_w m' n' x) = some R → lm_rn (lm_sc xs) (d + 5) lm_m216.2.2.2.2.1 (lm_reg lm_m216.2.2.2.2.2) (25, [(0, .ref 44), (3, .int (Int32.ofNat i)), (4, .int (Int32.ofNat 0))], []) (lm_w m1 n1 x) = some R) ∨ ∃ R, lm_E216 C k q a m n x R ∧ lm_rn (lm_sc xs) (d + 5) lm_m216.2.2.2.2.1 (lm_reg lm_m216.2.2.2.2.2) (25, [(0, .ref 44), (3, .int (Int32.ofNat i)), (4, .int (Int32.ofNat 0))], []) (lm_w m1 n1 x) = some R := by
  refine lm_lpe (sc := lm_sc xs) (d := d + 5) (b := k) (hs := lm_m216.2.2.2.2.1) (code := lm_reg lm_m216.2.2.2.2.2) (x := x) (fr := fun j => (25, [(0, .ref 44), (3, .int (Int32.ofNat i)), (4, .int (Int32.ofNat j))], [])) (I := fun j m' n' => lm_I216 C k q a m n i j m' n') (E := lm_E216 C k q a m n x) (fun j hj m2 n2 h2 => ?_) k 0 (by omega) m1 n1 h
  obtain ⟨g1, g2, g3, g4⟩ := h2
  have hik : i * k + k ≤ k * k := by
    rw [← Nat.succ_mul]
    exact Nat.mul_le_mul_right k hi
  have hkk : k * k ≤ 16 := Nat.mul_le_mul hk2 hk2
  have hk' : m2 44 12 = Int32.ofNat k := by rw [g1 44 (by decide) (by decide) (by decide) (by decide)]; exact hk
  generalize eM : lm_u (lm_u m2 72 32 (lm_b8 (Int32.ofNat j))) 72 33 (lm_b8 (Int32.ofNat i)) = M
  have eMr : ∀ r, r ≠ 72 → M r = m2 r := fun r hr => by rw [← eM, lm_u_row hr, lm_u_row hr]
  have hG : ∀ t, t < 34 → lm_b8 (M 72 t) = ln_gs (m q) a (Int32.ofNat j) (Int32.ofNat i) t := fun t ht => by
    unfold ln_gs
    by_cases c1 : t < 32
    · rw [if_pos c1, ← eM, lm_u_ne (by omega), lm_u_ne (by omega)]
      exact g3 t c1
    · rw [if_neg c1]
      by_cases c2 : t = 32
      · rw [if_pos c2, c2, ← eM, lm_u_ne (by decide), lm_u_eq, lm_b8b8]
      · rw [if_neg c2, show t = 33 by omega, ← eM, lm_u_eq, lm_b8b8]
  have hrM : ln_rt M := by
    have := g2.rt hr
    exact ⟨by rw [eMr 11 (by decide)]; exact this.1, by rw [eMr 17 (by decide)]; exact this.2⟩
  have pre : ∀ R, lm_bind (lm_asV (lm_cal (lm_sc xs) (d + 5) 285 [.ref 44, .ref (48 + (i * k + j))])) (fun _ => lm_rn (lm_sc xs) (d + 5) lm_m216.2.2.2.2.1 (lm_reg lm_m216.2.2.2.2.2) (25, [(0, .ref 44), (3, .int (Int32.ofNat i)), (4, .int (Int32.ofNat j + Int32.ofInt 1))], [])) (lm_w M n2 x) = some R → lm_rn (lm_sc xs) (d + 5) lm_m216.2.2.2.2.1 (lm_reg lm_m216.2.2.2.2.2) (25, [(0, .ref 44), (3, .int (Int32.ofNat i)), (4, .int (Int32.ofNat j))], []) (lm_w m2 n2 x) = some R := by
    intro R K
    refine lm_e216_25 ?_
    unfold lm_q216_25
    repeat (first
    | ((with_reducible apply lm_sI); exact rfl)
    | ((with_reducible apply lm_sR); exact rfl)
    | ((with_reducible apply lm_sS); exact rfl; exact rfl)
    | ((with_reducible apply lm_sL); exact rfl)
    | ((with_reducible apply lm_sP); exact rfl; exact rfl)
    | ((with_reducible apply lm_sPL); exact rfl; exact rfl)
    | ((with_reducible apply lm_sAA); exact rfl; exact rfl)
    | ((with_reducible apply lm_sA); (first | exact rfl | assumption); omega)
    | ((with_reducible apply lm_sJ); (first | exact rfl | assumption); omega)
    | ((with_reducible apply lm_sB); (first | exact rfl | assumption); omega)
    | ((with_reducible apply lm_wA); (first | exact rfl | assumption); omega)
    | ((with_reducible apply lm_wJ); (first | exact rfl | assumption); omega)
    | ((with_reducible apply lm_wB); (first | exact rfl | assumption); omega)
    | ((with_reducible apply lm_sAl); (first | exact rfl | assumption); omega)
    | ((with_reducible apply lm_iW); decide))
    simp only [Nat.reduceDiv, Nat.reduceMod]
    rw [hk']
    refine lm_geF (by omega) (by omega) (by omega) ?_
    rw [lm_K32, lm_K33]
    repeat (first
    | ((with_reducible apply lm_sI); exact rfl)
    | ((with_reducible apply lm_sR); exact rfl)
    | ((with_reducible apply lm_sS); exact rfl; exact rfl)
    | ((with_reducible apply lm_sL); exact rfl)
    | ((with_reducible apply lm_sP); exact rfl; exact rfl)
    | ((with_reducible apply lm_sPL); exact rfl; exact rfl)
    | ((with_reducible apply lm_sAA); exact rfl; exact rfl)
    | ((with_reducible apply lm_sA); (first | exact rfl | assumption); omega)
    | ((with_reducible apply lm_sJ); (first | exact rfl | assumption); omega)
    | ((with_reducible apply lm_sB); (first | exact rfl | assumption); omega)
    | ((with_reducible apply lm_wA); (first | exact rfl | assumption); omega)
    | ((with_reducible apply lm_wJ); (first | exact rfl | assumption); omega)
    | ((with_reducible apply lm_wB); (first | exact rfl | assumption); omega)
    | ((with_reducible apply lm_sAl); (first | exact rfl | assumption); omega)
    | ((with_reducible apply lm_iW); decide))
    rw [eM]
    repeat (first
    | ((with_reducible apply lm_sI); exact rfl)
    | ((with_reducible apply lm_sR); exact rfl)
    | ((with_reducible apply lm_sS); exact rfl; exact rfl)
    | ((with_reducible apply lm_sL); exact rfl)
    | ((with_reducible apply lm_sP); exact rfl; exact rfl)
    | ((with_reducible apply lm_sPL); exact rfl; exact rfl)
    | ((with_reducible apply lm_sAA); exact rfl; exact rfl)
    | ((with_reducible apply lm_sA); (first | exact rfl | assumption); omega)
    | ((with_reducible apply lm_sJ); (first | exact rfl | assumption); omega)
    | ((with_reducible apply lm_sB); (first | exact rfl | assumption); omega)
    | ((with_reducible apply lm_wA); (first | exact rfl | assumption); omega)
    | ((with_reducible apply lm_wJ); (first | exact rfl | assumption); omega)
    | ((with_reducible apply lm_wB); (first | exact rfl | assumption); omega)
    | ((with_reducible apply lm_sAl); (first | exact rfl | assumption); omega)
    | ((with_reducible apply lm_iW); decide))
    simp only [Nat.reduceDiv, Nat.reduceMod]
    rw [eMr 44 (by decide), hk', lm_om, lm_oo]
    refine lm_sAA rfl (lm_roK _ (by omega)) ?_
    repeat (first
    | ((with_reducible apply lm_sI); exact rfl)
    | ((with_reducible apply lm_sR); exact rfl)
    | ((with_reducible apply lm_sS); exact rfl; exact rfl)
    | ((with_reducible apply lm_sL); exact rfl)
    | ((with_reducible apply lm_sP); exact rfl; exact rfl)
    | ((with_reducible apply lm_sPL); exact rfl; exact rfl)
    | ((with_reducible apply lm_sAA); exact rfl; exact rfl)
    | ((with_reducible apply lm_sA); (first | exact rfl | assumption); omega)
    | ((with_reducible apply lm_sJ); (first | exact rfl | assumption); omega)
    | ((with_reducible apply lm_sB); (first | exact rfl | assumption); omega)
    | ((with_reducible apply lm_wA); (first | exact rfl | assumption); omega)
    | ((with_reducible apply lm_wJ); (first | exact rfl | assumption); omega)
    | ((with_reducible apply lm_wB); (first | exact rfl | assumption); omega)
    | ((with_reducible apply lm_sAl); (first | exact rfl | assumption); omega)
    | ((with_reducible apply lm_iW); decide))
    exact K
  obtain ⟨m3, n3, f1, f2, f3, f4, f5⟩ := lm_u285 (xs := xs) (d := d) (n := n2) (x := x) (p := 48 + (i * k + j)) hC hrM (lm_arK _ (by omega)) (by omega) (by omega) hG
  have fr1 : ∀ r, (r < 5 ∨ 22 < r) → r ≠ 71 → r ≠ 72 → (r < 48 ∨ 63 < r) → m3 r = m r := fun r h1 h2 h3 h4 => by
    rw [f1 r h1 h2 (by omega), eMr r h3, g1 r h1 h2 h3 h4]
  have fr2 : lm_fN m n m3 n3 := g2.tr ((lm_fN.of (eMr 11 (by decide)) (eMr 17 (by decide))).tr f2)
  have ek : lm_sm (lm_B11 C (ln_gs (m q) a (Int32.ofNat j) (Int32.ofNat i))) 280 = lm_kA C (m q) a j i := rfl
  rw [ek] at f3 f4 f5
  by_cases c : (lm_kA C (m q) a j i).1 = 256
  · refine Or.inl ⟨m3, n3, ⟨fr1, fr2, fun t ht => ?_, fun i' j' hj' hlt => ?_⟩, fun R K => pre R (lm_cV (f4 c) (by rw [lm_K1, lm_oo]; exact K))⟩
    · rw [f1 72 (by decide) (by decide) (by omega), ← eM, lm_u_ne (by omega), lm_u_ne (by omega)]
      exact g3 t ht
    · by_cases c2 : i' = i ∧ j' = j
      · obtain ⟨e1, e2⟩ := c2
        subst e1
        subst e2
        exact ⟨c, fun t ht => f3 t (by rw [c]; exact ht)⟩
      · have hlt2 : i' < i ∨ (i' = i ∧ j' < j) := by omega
        obtain ⟨a1, a2⟩ := g4 i' j' hj' hlt2
        refine ⟨a1, fun t ht => ?_⟩
        have hne : i' * k + j' ≠ i * k + j := by
          rcases hlt2 with l | ⟨l, l2⟩
          · have : (i' + 1) * k ≤ i * k := Nat.mul_le_mul_right k l
            rw [Nat.succ_mul] at this
            omega
          · subst l
            omega
        have hle : i' * k + j' < 16 := by
          rcases hlt2 with l | ⟨l, l2⟩
          · have : (i' + 1) * k ≤ i * k := Nat.mul_le_mul_right k l
            rw [Nat.succ_mul] at this
            omega
          · subst l
            omega
        rw [f1 (48 + (i' * k + j')) (by omega) (by omega) (by omega), eMr _ (by omega)]
        exact a2 t ht
  · exact Or.inr ⟨_, ⟨m3, n3, rfl, fr1, fr2, i, j, hi, hj, c⟩, pre _ (lm_cVe (f5 c hx))⟩
/-- expand -/
theorem lm_u216 (hC : lm_Cok xs C) (hr : ln_rt m) (hx : lm_rom x) (hk : m 44 12 = Int32.ofNat k) (hk2 : k ≤ 4) (hq : lm_ar q = some (1, v)) (hav : a + 32 ≤ v) (hv : v ≤ 70000) : (∃ m' n', lm_cal (lm_sc xs) (d + 6) 216 [.ref 44, .ref q, .int (Int32.ofNat a)] (lm_w m n x) = some (.ok none, lm_w m' n' x) ∧ (∀ r, (r < 5 ∨ 22 < r) → r ≠ 71 → r ≠ 72 → (r < 48 ∨ 63 < r) → m' r = m r) ∧ lm_fN m n m' n' ∧ ∀ i j, i < k → j < k → (lm_kA C (m q) a j i).1 = 256 ∧ ∀ c, c < 256 → m' (48 + (i * k + j)) c = Int32.ofNat ((lm_kA C (m q) a j i).2 c)) ∨ ∃ R, lm_E216 C k q a m n x R ∧ lm_cal (lm_sc xs) (d + 6) 216 [.ref 44, .ref q, .int (Int32.ofNat a)] (lm_w m n x) = some R := by
  have start : ∀ R, lm_rn (lm_sc xs) (d + 5) lm_m216.2.2.2.2.1 (lm_reg lm_m216.2.2.2.2.2) (14, [(0, .ref 44), (3, .int (Int32.ofNat 0))], []) (lm_w (lm_cp m 72 0 q a 32) n x) = some R → lm_cal (lm_sc xs) (d + 6) 216 [.ref 44, .ref q, .int (Int32.ofNat a)] (lm_w m n x) = some R := by
    intro R K
    refine lm_cal_of (Y := lm_m216) rfl rfl (lm_e216_0 ?_)
    unfold lm_q216_0
    rw [lm_K0, lm_K32]
    repeat (first
    | ((with_reducible apply lm_sI); exact rfl)
    | ((with_reducible apply lm_sR); exact rfl)
    | ((with_reducible apply lm_sS); exact rfl; exact rfl)
    | ((with_reducible apply lm_sL); exact rfl)
    | ((with_reducible apply lm_sP); exact rfl; exact rfl)
    | ((with_reducible apply lm_sPL); exact rfl; exact rfl)
    | ((with_reducible apply lm_sAA); exact rfl; exact rfl)
    | ((with_reducible apply lm_sA); (first | exact rfl | assumption); omega)
    | ((with_reducible apply lm_sJ); (first | exact rfl | assumption); omega)
    | ((with_reducible apply lm_sB); (first | exact rfl | assumption); omega)
    | ((with_reducible apply lm_wA); (first | exact rfl | assumption); omega)
    | ((with_reducible apply lm_wJ); (first | exact rfl | assumption); omega)
    | ((with_reducible apply lm_wB); (first | exact rfl | assumption); omega)
    | ((with_reducible apply lm_sAl); (first | exact rfl | assumption); omega)
    | ((with_reducible apply lm_iW); decide))
    exact lm_sCp (u := 1) hq rfl (Or.inr rfl) (by omega) (by decide) K
  have init : lm_I216 C k q a m n 0 0 (lm_cp m 72 0 q a 32) n := ⟨fun r _ _ h3 _ => lm_cp_row h3, .of (lm_cp_row (by decide)) (lm_cp_row (by decide)), fun t ht => by rw [lm_rc, if_pos ⟨rfl, by omega, by omega⟩, Nat.sub_zero, Nat.add_comm t a], fun i' j' _ h => by omega⟩
  rcases lm_lpe (sc := lm_sc xs) (d := d + 5) (b := k) (hs := lm_m216.2.2.2.2.1) (code := lm_reg lm_m216.2.2.2.2.2) (x := x) (fr := fun i => (14, [(0, .ref 44), (3, .int (Int32.ofNat i))], [])) (I := fun i m' n' => lm_I216 C k q a m n i 0 m' n') (E := lm_E216 C k q a m n x) (fun i hi m2 n2 h2 => by
    have hk' : ∀ (m3 : lm_MI) (n3 : lm_ML) (j : Nat), lm_I216 C k q a m n i j m3 n3 → m3 44 12 = Int32.ofNat k := fun m3 n3 j h => by rw [h.1 44 (by decide) (by decide) (by decide) (by decide)]; exact hk
    have head : ∀ R, lm_rn (lm_sc xs) (d + 5) lm_m216.2.2.2.2.1 (lm_reg lm_m216.2.2.2.2.2) (25, [(0, .ref 44), (3, .int (Int32.ofNat i)), (4, .int (Int32.ofNat 0))], []) (lm_w m2 n2 x) = some R → lm_rn (lm_sc xs) (d + 5) lm_m216.2.2.2.2.1 (lm_reg lm_m216.2.2.2.2.2) (14, [(0, .ref 44), (3, .int (Int32.ofNat i))], []) (lm_w m2 n2 x) = some R := by
      intro R K
      refine lm_e216_14 ?_
      unfold lm_q216_14
      repeat (first
    | ((with_reducible apply lm_sI); exact rfl)
    | ((with_reducible apply lm_sR); exact rfl)
    | ((with_reducible apply lm_sS); exact rfl; exact rfl)
    | ((with_reducible apply lm_sL); exact rfl)
    | ((with_reducible apply lm_sP); exact rfl; exact rfl)
    | ((with_reducible apply lm_sPL); exact rfl; exact rfl)
    | ((with_reducible apply lm_sAA); exact rfl; exact rfl)
    | ((with_reducible apply lm_sA); (first | exact rfl | assumption); omega)
    | ((with_reducible apply lm_sJ); (first | exact rfl | assumption); omega)
    | ((with_reducible apply lm_sB); (first | exact rfl | assumption); omega)
    | ((with_reducible apply lm_wA); (first | exact rfl | assumption); omega)
    | ((with_reducible apply lm_wJ); (first | exact rfl | assumption); omega)
    | ((with_reducible apply lm_wB); (first | exact rfl | assumption); omega)
    | ((with_reducible apply lm_sAl); (first | exact rfl | assumption); omega)
    | ((with_reducible apply lm_iW); decide))
      simp only [Nat.reduceDiv, Nat.reduceMod]
      rw [hk' m2 n2 0 h2]
      refine lm_geF (by omega) (by omega) (by omega) ?_
      rw [lm_K0]
      exact K
    rcases lm_l216j (d := d) hC hr hx hk hk2 hi h2 with ⟨m', n', g, K⟩ | ⟨R, e, K⟩
    · refine Or.inl ⟨m', n', ⟨g.1, g.2.1, g.2.2.1, fun i' j' hj' hl => g.2.2.2 i' j' hj' (by omega)⟩, fun R K2 => head R (K R (lm_e216_25 ?_))⟩
      unfold lm_q216_25
      repeat (first
    | ((with_reducible apply lm_sI); exact rfl)
    | ((with_reducible apply lm_sR); exact rfl)
    | ((with_reducible apply lm_sS); exact rfl; exact rfl)
    | ((with_reducible apply lm_sL); exact rfl)
    | ((with_reducible apply lm_sP); exact rfl; exact rfl)
    | ((with_reducible apply lm_sPL); exact rfl; exact rfl)
    | ((with_reducible apply lm_sAA); exact rfl; exact rfl)
    | ((with_reducible apply lm_sA); (first | exact rfl | assumption); omega)
    | ((with_reducible apply lm_sJ); (first | exact rfl | assumption); omega)
    | ((with_reducible apply lm_sB); (first | exact rfl | assumption); omega)
    | ((with_reducible apply lm_wA); (first | exact rfl | assumption); omega)
    | ((with_reducible apply lm_wJ); (first | exact rfl | assumption); omega)
    | ((with_reducible apply lm_wB); (first | exact rfl | assumption); omega)
    | ((with_reducible apply lm_sAl); (first | exact rfl | assumption); omega)
    | ((with_reducible apply lm_iW); decide))
      simp only [Nat.reduceDiv, Nat.reduceMod]
      rw [hk' m' n' k g]
      refine lm_geT (by omega) (by omega) (by omega) ?_
      rw [lm_K1, lm_oo]
      exact K2
    · exact Or.inr ⟨R, e, head R K⟩) k 0 (by omega) _ _ init with ⟨m', n', g, K⟩ | ⟨R, e, K⟩
  · refine Or.inl ⟨m', n', start _ (K _ (lm_e216_14 ?_)), g.1, g.2.1, fun i j hi hj => g.2.2.2 i j hj (Or.inl hi)⟩
    unfold lm_q216_14
    repeat (first
    | ((with_reducible apply lm_sI); exact rfl)
    | ((with_reducible apply lm_sR); exact rfl)
    | ((with_reducible apply lm_sS); exact rfl; exact rfl)
    | ((with_reducible apply lm_sL); exact rfl)
    | ((with_reducible apply lm_sP); exact rfl; exact rfl)
    | ((with_reducible apply lm_sPL); exact rfl; exact rfl)
    | ((with_reducible apply lm_sAA); exact rfl; exact rfl)
    | ((with_reducible apply lm_sA); (first | exact rfl | assumption); omega)
    | ((with_reducible apply lm_sJ); (first | exact rfl | assumption); omega)
    | ((with_reducible apply lm_sB); (first | exact rfl | assumption); omega)
    | ((with_reducible apply lm_wA); (first | exact rfl | assumption); omega)
    | ((with_reducible apply lm_wJ); (first | exact rfl | assumption); omega)
    | ((with_reducible apply lm_wB); (first | exact rfl | assumption); omega)
    | ((with_reducible apply lm_sAl); (first | exact rfl | assumption); omega)
    | ((with_reducible apply lm_iW); decide))
    simp only [Nat.reduceDiv, Nat.reduceMod]
    rw [g.1 44 (by decide) (by decide) (by decide) (by decide), hk]
    exact lm_geT (by omega) (by omega) (by omega) rfl
  · exact Or.inr ⟨R, e, start R K⟩
/-- hashPair -/
theorem lm_u215 {q1 q3 v1 v3 a3 l1 l3 : Nat} (hC : lm_Cok xs C) (hr : ln_rt m) (h1 : lm_ar q1 = some (1, v1)) (h3 : lm_ar q3 = some (1, v3)) (g1 : q1 < 5 ∨ 22 < q1) (g3 : q3 < 5 ∨ 22 < q3) (b1 : l1 ≤ v1) (b3 : a3 + l3 ≤ v3) (w1 : v1 ≤ 70000) (w3 : v3 ≤ 70000) (e1 : ∀ t, t < l1 → lm_b8 (m q1 t) = G t) (e3 : ∀ t, t < l3 → lm_b8 (m q3 (a3 + t)) = G (l1 + t)) : ∃ m' n', lm_cal (lm_sc xs) (d + 5) 215 [.ref 44, .ref q1, .int (Int32.ofNat l1), .ref q3, .int (Int32.ofNat a3), .int (Int32.ofNat l3)] (lm_w m n x) = some (.ok none, lm_w m' n' x) ∧ (∀ q, (q < 5 ∨ 22 < q) → q ≠ 73 → m' q = m q) ∧ lm_fN m n m' n' ∧ ∀ i, i < 64 → m' 73 i = lm_Hm C 10 G (l1 + l3) i := by
  obtain ⟨m1, n1, k1, s1, f1⟩ := lm_cS (xs := xs) (d := d + 1) (x := x) (m := m) (n := n) (k := 10) (G := G) hC hr (by decide) (by decide)
  obtain ⟨m2, n2, k2, s2, f2⟩ := lm_cA (xs := xs) (d := d) (x := x) (k := 10) (q := q1) (v := v1) (a := 0) (l := l1) (L := 0) (G := G) hC (by decide) (by decide) g1 h1 (by omega) w1 (fun t ht => by
    rw [f1.1 q1 g1, Nat.zero_add]
    exact e1 t ht) s1
  rw [Nat.zero_add] at s2
  obtain ⟨m3, n3, k3, s3, f3⟩ := lm_cA (xs := xs) (d := d) (x := x) (k := 10) (q := q3) (v := v3) (a := a3) (l := l3) (L := l1) (G := G) hC (by decide) (by decide) g3 h3 b3 w3 (fun t ht => by
    rw [f2.1 q3 g3, f1.1 q3 g3]
    exact e3 t ht) s2
  obtain ⟨m4, n4, k4, f4⟩ := lm_cF (xs := xs) (d := d) (x := x) (k := 10) (q := 73) (v := 64) (a := 0) (l := 64) hC (by decide) (by decide) (by decide) rfl (by decide) (by decide) (fun h => absurd h (by decide)) s3
  refine ⟨lm_fil m4 73 0 (0 + 64) (fun i => lm_Hm C 10 G (l1 + l3) (i - 0)), n4, ?_, fun q hq h73 => ?_, ?_, fun i hi => ?_⟩
  rotate_left
  · exact (lm_fl_row h73).trans (by rw [f4.1 q hq, f3.1 q hq, f2.1 q hq, f1.1 q hq])
  · exact f1.N.tr (f2.N.tr (f3.N.tr (f4.N.tr (.of (lm_fl_row (by decide)) (lm_fl_row (by decide))))))
  · exact lm_fl_in (by omega)
  · refine lm_cal_of (Y := lm_m215) rfl rfl (lm_e215_0 ?_)
    unfold lm_q215_0
    rw [lm_K10, lm_K0, lm_K64]
    repeat (first
    | ((with_reducible apply lm_sI); exact rfl)
    | ((with_reducible apply lm_sR); exact rfl)
    | ((with_reducible apply lm_sS); exact rfl; exact rfl)
    | ((with_reducible apply lm_sL); exact rfl)
    | ((with_reducible apply lm_sP); exact rfl; exact rfl)
    | ((with_reducible apply lm_sPL); exact rfl; exact rfl)
    | ((with_reducible apply lm_sAA); exact rfl; exact rfl)
    | ((with_reducible apply lm_sA); (first | exact rfl | assumption); omega)
    | ((with_reducible apply lm_sJ); (first | exact rfl | assumption); omega)
    | ((with_reducible apply lm_sB); (first | exact rfl | assumption); omega)
    | ((with_reducible apply lm_wA); (first | exact rfl | assumption); omega)
    | ((with_reducible apply lm_wJ); (first | exact rfl | assumption); omega)
    | ((with_reducible apply lm_wB); (first | exact rfl | assumption); omega)
    | ((with_reducible apply lm_sAl); (first | exact rfl | assumption); omega)
    | ((with_reducible apply lm_iW); decide))
    refine lm_cR k1 ?_
    refine lm_selA (k := 10) (by decide) (by decide) ?_
    refine lm_cV k2 ?_
    refine lm_selA (k := 10) (by decide) (by decide) ?_
    refine lm_cV k3 ?_
    repeat (first
    | ((with_reducible apply lm_sI); exact rfl)
    | ((with_reducible apply lm_sR); exact rfl)
    | ((with_reducible apply lm_sS); exact rfl; exact rfl)
    | ((with_reducible apply lm_sL); exact rfl)
    | ((with_reducible apply lm_sP); exact rfl; exact rfl)
    | ((with_reducible apply lm_sPL); exact rfl; exact rfl)
    | ((with_reducible apply lm_sAA); exact rfl; exact rfl)
    | ((with_reducible apply lm_sA); (first | exact rfl | assumption); omega)
    | ((with_reducible apply lm_sJ); (first | exact rfl | assumption); omega)
    | ((with_reducible apply lm_sB); (first | exact rfl | assumption); omega)
    | ((with_reducible apply lm_wA); (first | exact rfl | assumption); omega)
    | ((with_reducible apply lm_wJ); (first | exact rfl | assumption); omega)
    | ((with_reducible apply lm_wB); (first | exact rfl | assumption); omega)
    | ((with_reducible apply lm_sAl); (first | exact rfl | assumption); omega)
    | ((with_reducible apply lm_iW); decide))
    refine lm_cV k4 ?_
    rfl
/-- hashPublic -/
theorem lm_u223 {p w b : Nat} (hC : lm_Cok xs C) (hr : ln_rt m) (hk : m 44 12 = Int32.ofNat k) (hk2 : k ≤ 4) (hq : lm_ar q = some (1, v)) (gq : q < 5 ∨ 22 < q) (hav : a + (384 * k + 32) ≤ v) (hv : v ≤ 70000) (hp : lm_ar p = some (1, w)) (gp : p < 5 ∨ 22 < p) (hbw : b + 32 ≤ w) (hw : w ≤ 70000) (e1 : ∀ t, t < 384 * k + 32 → lm_b8 (m q (a + t)) = G t) : ∃ m' n', lm_cal (lm_sc xs) (d + 5) 223 [.ref 44, .ref q, .int (Int32.ofNat a), .ref p, .int (Int32.ofNat b)] (lm_w m n x) = some (.ok none, lm_w m' n' x) ∧ (∀ r, (r < 5 ∨ 22 < r) → r ≠ p → m' r = m r) ∧ lm_fN m n m' n' ∧ (∀ i, i < b ∨ b + 32 ≤ i → m' p i = m p i) ∧ ∀ i, i < 32 → m' p (b + i) = lm_Hm C 8 G (384 * k + 32) i := by
  obtain ⟨m1, n1, k1, s1, f1⟩ := lm_cS (xs := xs) (d := d + 1) (x := x) (m := m) (n := n) (k := 8) (G := G) hC hr (by decide) (by decide)
  obtain ⟨m2, n2, k2, s2, f2⟩ := lm_cA (xs := xs) (d := d) (x := x) (k := 8) (q := q) (v := v) (a := a) (l := 384 * k + 32) (L := 0) (G := G) hC (by decide) (by decide) gq hq hav hv (fun t ht => by
    rw [f1.1 q gq, Nat.zero_add]
    exact e1 t ht) s1
  rw [Nat.zero_add] at s2
  obtain ⟨m4, n4, k4, f4⟩ := lm_cF (xs := xs) (d := d) (x := x) (k := 8) (q := p) (v := w) (a := b) (l := 32) hC (by decide) (by decide) gp hp hbw hw (fun h => absurd h (by decide)) s2
  refine ⟨lm_fil m4 p b (b + 32) (fun i => lm_Hm C 8 G (384 * k + 32) (i - b)), n4, ?_, fun r hr hrp => ?_, ?_, fun i hi => ?_, fun i hi => ?_⟩
  rotate_left
  · exact (lm_fl_row hrp).trans (by rw [f4.1 r hr, f2.1 r hr, f1.1 r hr])
  · exact f1.N.tr (f2.N.tr (f4.N.tr (.of (lm_fl_row (by omega)) (lm_fl_row (by omega)))))
  · exact (lm_fl_out (by omega)).trans (by rw [f4.1 p gp, f2.1 p gp, f1.1 p gp])
  · refine (lm_fl_in (by omega)).trans ?_
    show lm_Hm C 8 G (384 * k + 32) (b + i - b) = _
    rw [Nat.add_sub_cancel_left]
  · have u222 : lm_cal (lm_sc xs) (d + 4) 222 [.ref 44] (lm_w m1 n1 x) = some (.ok (some (.int (Int32.ofNat (384 * k + 32)))), lm_w m1 n1 x) := by
      refine lm_cal_of (Y := lm_m222) rfl rfl (lm_e222_0 ?_)
      unfold lm_q222_0
      repeat (first
    | ((with_reducible apply lm_sI); exact rfl)
    | ((with_reducible apply lm_sR); exact rfl)
    | ((with_reducible apply lm_sS); exact rfl; exact rfl)
    | ((with_reducible apply lm_sL); exact rfl)
    | ((with_reducible apply lm_sP); exact rfl; exact rfl)
    | ((with_reducible apply lm_sPL); exact rfl; exact rfl)
    | ((with_reducible apply lm_sAA); exact rfl; exact rfl)
    | ((with_reducible apply lm_sA); (first | exact rfl | assumption); omega)
    | ((with_reducible apply lm_sJ); (first | exact rfl | assumption); omega)
    | ((with_reducible apply lm_sB); (first | exact rfl | assumption); omega)
    | ((with_reducible apply lm_wA); (first | exact rfl | assumption); omega)
    | ((with_reducible apply lm_wJ); (first | exact rfl | assumption); omega)
    | ((with_reducible apply lm_wB); (first | exact rfl | assumption); omega)
    | ((with_reducible apply lm_sAl); (first | exact rfl | assumption); omega)
    | ((with_reducible apply lm_iW); decide))
      simp only [Nat.reduceDiv, Nat.reduceMod]
      rw [f1.1 44 (by decide), hk, lm_K384, lm_K32, lm_om, lm_oo]
      rfl
    refine lm_cal_of (Y := lm_m223) rfl rfl (lm_e223_0 ?_)
    unfold lm_q223_0
    rw [lm_K8, lm_K32]
    repeat (first
    | ((with_reducible apply lm_sI); exact rfl)
    | ((with_reducible apply lm_sR); exact rfl)
    | ((with_reducible apply lm_sS); exact rfl; exact rfl)
    | ((with_reducible apply lm_sL); exact rfl)
    | ((with_reducible apply lm_sP); exact rfl; exact rfl)
    | ((with_reducible apply lm_sPL); exact rfl; exact rfl)
    | ((with_reducible apply lm_sAA); exact rfl; exact rfl)
    | ((with_reducible apply lm_sA); (first | exact rfl | assumption); omega)
    | ((with_reducible apply lm_sJ); (first | exact rfl | assumption); omega)
    | ((with_reducible apply lm_sB); (first | exact rfl | assumption); omega)
    | ((with_reducible apply lm_wA); (first | exact rfl | assumption); omega)
    | ((with_reducible apply lm_wJ); (first | exact rfl | assumption); omega)
    | ((with_reducible apply lm_wB); (first | exact rfl | assumption); omega)
    | ((with_reducible apply lm_sAl); (first | exact rfl | assumption); omega)
    | ((with_reducible apply lm_iW); decide))
    refine lm_cR k1 ?_
    repeat (first
    | ((with_reducible apply lm_sI); exact rfl)
    | ((with_reducible apply lm_sR); exact rfl)
    | ((with_reducible apply lm_sS); exact rfl; exact rfl)
    | ((with_reducible apply lm_sL); exact rfl)
    | ((with_reducible apply lm_sP); exact rfl; exact rfl)
    | ((with_reducible apply lm_sPL); exact rfl; exact rfl)
    | ((with_reducible apply lm_sAA); exact rfl; exact rfl)
    | ((with_reducible apply lm_sA); (first | exact rfl | assumption); omega)
    | ((with_reducible apply lm_sJ); (first | exact rfl | assumption); omega)
    | ((with_reducible apply lm_sB); (first | exact rfl | assumption); omega)
    | ((with_reducible apply lm_wA); (first | exact rfl | assumption); omega)
    | ((with_reducible apply lm_wJ); (first | exact rfl | assumption); omega)
    | ((with_reducible apply lm_wB); (first | exact rfl | assumption); omega)
    | ((with_reducible apply lm_sAl); (first | exact rfl | assumption); omega)
    | ((with_reducible apply lm_iW); decide))
    refine lm_cI u222 ?_
    refine lm_selA (k := 8) (by decide) (by decide) ?_
    refine lm_cV k2 ?_
    refine lm_selF (k := 8) (by decide) (by decide) ?_
    refine lm_cV k4 ?_
    rfl
end LMKX
