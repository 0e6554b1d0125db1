/-! ===== dsaSign of the class: an attempt, its pieces ===== -/
/-- the challenge's message: the hash, then the highs -/
def lm_cG (U : Nat → Int32) (F : Nat → Nat → Int) (hb t : Nat) : Int32 := if t < 64 then lm_b8 (U t) else ln_gp (lm_pkB F hb) (t - 64)
theorem lm_abs_lt {a b : Int} : (if 0 ≤ a then a else -a) < b ↔ -b < a ∧ a < b := by
  split <;> omega
section LMDW
variable {xs : List Int32} {C : lm_CX} {d s : Nat} {m : lm_MI} {n : lm_ML} {x : lm_H × Nat × Nat} {G : Nat → Int32} {L : Nat}
/-- addHighs -/
theorem lm_u297 {p i : Nat} {W : Nat → Nat → Int} (hC : lm_Cok xs C) (hs : s ≤ 2) (h17 : m 76 17 = Int32.ofNat s) (hp : lm_ar p = some (0, 256)) (gp : p ≠ 186) (hW : ∀ c, c < 256 → m p c = Int32.ofInt (W i c) ∧ 0 ≤ W i c ∧ W i c < 8380417) (hG : ∀ j, j < 32 * lm_hb s → G (L + j) = ln_gp (lm_pkB (fun i c => lm_hi (lm_dg2 s) (W i c)) (lm_hb s)) (32 * lm_hb s * i + j)) (hS : lm_CS m n 12 (lm_MS C 12 G L)) : ∃ m' n', lm_cal (lm_sc xs) (d + 5) 297 [.ref 76, .ref 5, .ref p] (lm_w m n x) = some (.ok none, lm_w m' n' x) ∧ (∀ r, (r < 5 ∨ 22 < r) → r ≠ 186 → r ≠ 188 → m' r = m r) ∧ lm_fN m n m' n' ∧ lm_CS m' n' 12 (lm_MS C 12 G (L + 32 * lm_hb s)) := by
  have hpar := lm_dpar s hs
  obtain ⟨m1, n1, ⟨en, g1, g2⟩, k1⟩ := lm_lp (sc := lm_sc xs) (d := d + 4) (b := 256) (hs := lm_m297.2.2.2.2.1) (code := lm_reg lm_m297.2.2.2.2.2) (x := x) (fr := fun c => (2, [(0, .ref 76), (1, .ref 5), (2, .ref p), (3, .int (Int32.ofNat c))], [])) (I := fun c m' n' => n' = n ∧ (∀ r, r ≠ 186 → m' r = m r) ∧ ∀ c', c' < c → m' 186 c' = Int32.ofInt (lm_hi (lm_dg2 s) (W i c'))) (fun c hc m1 n1 ⟨en, g1, g2⟩ => by
    have hw := hW c hc
    have u := lm_u301 (xs := xs) (d := d + 2) (m := m1) (n := n1) (x := x) (r := W i c) hs (by rw [g1 76 (by decide)]; exact h17) hw.2
    refine ⟨lm_u m1 186 c (Int32.ofInt (lm_hi (lm_dg2 s) (W i c))), n1, ⟨en, fun r hr => (lm_u_row hr).trans (g1 r hr), fun c' hc' => ?_⟩, fun R K => lm_e297_2 ?_⟩
    · by_cases c0 : c' = c
      · subst c0; rw [lm_u_eq]
      · rw [lm_u_ne (fun g => c0 g.2)]; exact g2 c' (by omega)
    · unfold lm_q297_2
      rw [lm_K256]
      refine lm_geF (by omega) (by omega) (by omega) ?_
      repeat (first
    | ((with_reducible apply lm_sI); exact rfl)
    | ((with_reducible apply lm_sR); exact rfl)
    | ((with_reducible apply lm_sS); exact rfl; exact rfl)
    | ((with_reducible apply lm_sL); exact rfl)
    | ((with_reducible apply lm_sP); exact rfl; exact rfl)
    | ((with_reducible apply lm_sPL); exact rfl; exact rfl)
    | ((with_reducible apply lm_sAA); exact rfl; exact rfl)
    | ((with_reducible apply lm_sA); (first | exact rfl | assumption); omega)
    | ((with_reducible apply lm_sJ); (first | exact rfl | assumption); omega)
    | ((with_reducible apply lm_sB); (first | exact rfl | assumption); omega)
    | ((with_reducible apply lm_wA); (first | exact rfl | assumption); omega)
    | ((with_reducible apply lm_wJ); (first | exact rfl | assumption); omega)
    | ((with_reducible apply lm_wB); (first | exact rfl | assumption); omega)
    | ((with_reducible apply lm_sAl); (first | exact rfl | assumption); omega)
    | ((with_reducible apply lm_iW); decide))
      rw [g1 p gp, hw.1]
      refine lm_cI u ?_
      repeat (first
    | ((with_reducible apply lm_sI); exact rfl)
    | ((with_reducible apply lm_sR); exact rfl)
    | ((with_reducible apply lm_sS); exact rfl; exact rfl)
    | ((with_reducible apply lm_sL); exact rfl)
    | ((with_reducible apply lm_sP); exact rfl; exact rfl)
    | ((with_reducible apply lm_sPL); exact rfl; exact rfl)
    | ((with_reducible apply lm_sAA); exact rfl; exact rfl)
    | ((with_reducible apply lm_sA); (first | exact rfl | assumption); omega)
    | ((with_reducible apply lm_sJ); (first | exact rfl | assumption); omega)
    | ((with_reducible apply lm_sB); (first | exact rfl | assumption); omega)
    | ((with_reducible apply lm_wA); (first | exact rfl | assumption); omega)
    | ((with_reducible apply lm_wJ); (first | exact rfl | assumption); omega)
    | ((with_reducible apply lm_wB); (first | exact rfl | assumption); omega)
    | ((with_reducible apply lm_sAl); (first | exact rfl | assumption); omega)
    | ((with_reducible apply lm_iW); decide))
      rw [lm_K1, lm_oo]
      exact K) 256 0 (by omega) m n ⟨rfl, fun _ _ => rfl, fun c' hc' => absurd hc' (by omega)⟩
  subst en
  have h17' : m1 76 17 = Int32.ofNat s := by rw [g1 76 (by decide)]; exact h17
  obtain ⟨m2, c2, p2⟩ := lm_u219 (sc := lm_sc xs) (e := d + 3) (n := n1) (x := x) (m := m1) (p := 186) (q := 188) (v := 640) (a := 0) (d := lm_hb s) (F := fun c => (lm_hi (lm_dg2 s) (W i c)).toNat) rfl rfl (by decide) (by omega) (by omega) (by decide) (by omega) (fun c hc => by
    have b := lm_hi_hb (r := W i c) hs (hW c hc).2
    exact ⟨by rw [g2 c hc, lm_oN, Int.toNat_of_nonneg b.1], by omega⟩)
  have h17'' : m2 76 17 = Int32.ofNat s := by rw [p2.1 76 (by decide)]; exact h17'
  have S2 : lm_CS m2 n1 12 (lm_MS C 12 G L) := lm_CS_m (by decide) (by decide) hS (fun r r1 r2 => by rw [p2.1 r (by omega), g1 r (by omega)]) (fun _ _ _ => rfl)
  obtain ⟨m3, n3, k3, s3, f3⟩ := lm_cA (xs := xs) (d := d) (x := x) (k := 12) (q := 188) (v := 640) (a := 0) (l := 32 * lm_hb s) (L := L) (G := G) hC (by decide) (by decide) (by decide) rfl (by omega) (by decide) (fun t ht => by
    rw [hG t ht]
    refine lm_gp_yb ?_ lm_pkB_lt
    rw [p2.2.2 t ht, lm_pkB_at (by omega)]) S2
  refine ⟨m3, n3, ?_, fun r q1 q2 q3 => by rw [f3.1 r q1, p2.1 r q3, g1 r q2], (lm_fN.of (by rw [p2.1 11 (by decide), g1 11 (by decide)]) (by rw [p2.1 17 (by decide), g1 17 (by decide)])).tr f3.N, s3⟩
  refine lm_cal_of (Y := lm_m297) rfl rfl (lm_e297_0 ?_)
  unfold lm_q297_0
  rw [lm_K0]
  refine k1 _ (lm_e297_2 ?_)
  unfold lm_q297_2
  rw [lm_K256]
  refine lm_geT (by omega) (by omega) (by omega) ?_
  rw [lm_K0]
  repeat (first
    | ((with_reducible apply lm_sI); exact rfl)
    | ((with_reducible apply lm_sR); exact rfl)
    | ((with_reducible apply lm_sS); exact rfl; exact rfl)
    | ((with_reducible apply lm_sL); exact rfl)
    | ((with_reducible apply lm_sP); exact rfl; exact rfl)
    | ((with_reducible apply lm_sPL); exact rfl; exact rfl)
    | ((with_reducible apply lm_sAA); exact rfl; exact rfl)
    | ((with_reducible apply lm_sA); (first | exact rfl | assumption); omega)
    | ((with_reducible apply lm_sJ); (first | exact rfl | assumption); omega)
    | ((with_reducible apply lm_sB); (first | exact rfl | assumption); omega)
    | ((with_reducible apply lm_wA); (first | exact rfl | assumption); omega)
    | ((with_reducible apply lm_wJ); (first | exact rfl | assumption); omega)
    | ((with_reducible apply lm_wB); (first | exact rfl | assumption); omega)
    | ((with_reducible apply lm_sAl); (first | exact rfl | assumption); omega)
    | ((with_reducible apply lm_iW); decide))
  refine lm_cI (lm_u257 (d := d + 3) hs h17') ?_
  repeat (first
    | ((with_reducible apply lm_sI); exact rfl)
    | ((with_reducible apply lm_sR); exact rfl)
    | ((with_reducible apply lm_sS); exact rfl; exact rfl)
    | ((with_reducible apply lm_sL); exact rfl)
    | ((with_reducible apply lm_sP); exact rfl; exact rfl)
    | ((with_reducible apply lm_sPL); exact rfl; exact rfl)
    | ((with_reducible apply lm_sAA); exact rfl; exact rfl)
    | ((with_reducible apply lm_sA); (first | exact rfl | assumption); omega)
    | ((with_reducible apply lm_sJ); (first | exact rfl | assumption); omega)
    | ((with_reducible apply lm_sB); (first | exact rfl | assumption); omega)
    | ((with_reducible apply lm_wA); (first | exact rfl | assumption); omega)
    | ((with_reducible apply lm_wJ); (first | exact rfl | assumption); omega)
    | ((with_reducible apply lm_wB); (first | exact rfl | assumption); omega)
    | ((with_reducible apply lm_sAl); (first | exact rfl | assumption); omega)
    | ((with_reducible apply lm_iW); decide))
  refine lm_cV c2 ?_
  repeat (first
    | ((with_reducible apply lm_sI); exact rfl)
    | ((with_reducible apply lm_sR); exact rfl)
    | ((with_reducible apply lm_sS); exact rfl; exact rfl)
    | ((with_reducible apply lm_sL); exact rfl)
    | ((with_reducible apply lm_sP); exact rfl; exact rfl)
    | ((with_reducible apply lm_sPL); exact rfl; exact rfl)
    | ((with_reducible apply lm_sAA); exact rfl; exact rfl)
    | ((with_reducible apply lm_sA); (first | exact rfl | assumption); omega)
    | ((with_reducible apply lm_sJ); (first | exact rfl | assumption); omega)
    | ((with_reducible apply lm_sB); (first | exact rfl | assumption); omega)
    | ((with_reducible apply lm_wA); (first | exact rfl | assumption); omega)
    | ((with_reducible apply lm_wJ); (first | exact rfl | assumption); omega)
    | ((with_reducible apply lm_wB); (first | exact rfl | assumption); omega)
    | ((with_reducible apply lm_sAl); (first | exact rfl | assumption); omega)
    | ((with_reducible apply lm_iW); decide))
  refine lm_cI (lm_u257 (d := d + 3) hs h17'') ?_
  rw [lm_K32, lm_om]
  repeat (first
    | ((with_reducible apply lm_sI); exact rfl)
    | ((with_reducible apply lm_sR); exact rfl)
    | ((with_reducible apply lm_sS); exact rfl; exact rfl)
    | ((with_reducible apply lm_sL); exact rfl)
    | ((with_reducible apply lm_sP); exact rfl; exact rfl)
    | ((with_reducible apply lm_sPL); exact rfl; exact rfl)
    | ((with_reducible apply lm_sAA); exact rfl; exact rfl)
    | ((with_reducible apply lm_sA); (first | exact rfl | assumption); omega)
    | ((with_reducible apply lm_sJ); (first | exact rfl | assumption); omega)
    | ((with_reducible apply lm_sB); (first | exact rfl | assumption); omega)
    | ((with_reducible apply lm_wA); (first | exact rfl | assumption); omega)
    | ((with_reducible apply lm_wJ); (first | exact rfl | assumption); omega)
    | ((with_reducible apply lm_wB); (first | exact rfl | assumption); omega)
    | ((with_reducible apply lm_sAl); (first | exact rfl | assumption); omega)
    | ((with_reducible apply lm_iW); decide))
  exact lm_cV k3 rfl
/-- a mask is finished: the inner loop -/
theorem lm_l298 {t b : Nat} {Y Z D : Nat → Int} (ht : t < 7) (hb : b ≤ 524288) (hY : ∀ c, c < 256 → m (161 + t) c = Int32.ofInt (Y c)) (hD : ∀ c, c < 256 → m 186 c = Int32.ofInt (D c)) (hZ : ∀ c, c < 256 → Z c = Y c + D c ∧ -10000000 ≤ Z c ∧ Z c ≤ 10000000) : (∃ m', (∀ r, r ≠ 161 + t → m' r = m r) ∧ (∀ c, c < 256 → m' (161 + t) c = Int32.ofInt (Z c)) ∧ (∀ c, c < 256 → -(b : Int) < Z c ∧ Z c < b) ∧ ∀ R, lm_rn (lm_sc xs) (d + 4) lm_m298.2.2.2.2.1 (lm_reg lm_m298.2.2.2.2.2) (36, [(0, .ref 76), (1, .int (Int32.ofNat b)), (2, .int (Int32.ofNat t)), (3, .int (Int32.ofNat 256))], []) (lm_w m' n x) = some R → lm_rn (lm_sc xs) (d + 4) lm_m298.2.2.2.2.1 (lm_reg lm_m298.2.2.2.2.2) (36, [(0, .ref 76), (1, .int (Int32.ofNat b)), (2, .int (Int32.ofNat t)), (3, .int (Int32.ofNat 0))], []) (lm_w m n x) = some R) ∨ ∃ m', (∀ r, r ≠ 161 + t → m' r = m r) ∧ (∃ c, c < 256 ∧ ¬ (-(b : Int) < Z c ∧ Z c < b)) ∧ lm_rn (lm_sc xs) (d + 4) lm_m298.2.2.2.2.1 (lm_reg lm_m298.2.2.2.2.2) (36, [(0, .ref 76), (1, .int (Int32.ofNat b)), (2, .int (Int32.ofNat t)), (3, .int (Int32.ofNat 0))], []) (lm_w m n x) = some (.ok (some (.int 0)), lm_w m' n x) := by
  have aM := (lm_arM7 t ht).1
  rcases lm_lpe (sc := lm_sc xs) (d := d + 4) (b := 256) (hs := lm_m298.2.2.2.2.1) (code := lm_reg lm_m298.2.2.2.2.2) (x := x) (fr := fun c => (36, [(0, .ref 76), (1, .int (Int32.ofNat b)), (2, .int (Int32.ofNat t)), (3, .int (Int32.ofNat c))], [])) (I := fun c m' n' => n' = n ∧ (∀ r, r ≠ 161 + t → m' r = m r) ∧ (∀ c', c' < c → m' (161 + t) c' = Int32.ofInt (Z c') ∧ -(b : Int) < Z c' ∧ Z c' < b) ∧ ∀ c', c ≤ c' → m' (161 + t) c' = m (161 + t) c') (E := fun R => ∃ m', R = (.ok (some (.int 0)), lm_w m' n x) ∧ (∀ r, r ≠ 161 + t → m' r = m r) ∧ ∃ c, c < 256 ∧ ¬ (-(b : Int) < Z c ∧ Z c < b)) (fun c hc m1 n1 ⟨en, g1, g2, g3⟩ => by
    subst en
    have hz := hZ c hc
    have eY : m1 (161 + t) c = Int32.ofInt (Y c) := by rw [g3 c (by omega)]; exact hY c hc
    have eD : m1 186 c = Int32.ofInt (D c) := by rw [g1 186 (by omega)]; exact hD c hc
    generalize eM : lm_u m1 (161 + t) c (Int32.ofInt (Z c)) = M
    have rM : ∀ r, r ≠ 161 + t → M r = m1 r := fun r hr => by rw [← eM, lm_u_row hr]
    have u := lm_u253 (sc := lm_sc xs) (d := d + 3) (σ := lm_w M n1 x) (a := Z c) (by omega)
    have pre : ∀ R, lm_if .lt (Int32.ofInt (if 0 ≤ Z c then Z c else -Z c)) (Int32.ofInt (b : Int)) (lm_rn (lm_sc xs) (d + 4) lm_m298.2.2.2.2.1 (lm_reg lm_m298.2.2.2.2.2) (36, [(0, .ref 76), (1, .int (Int32.ofNat b)), (2, .int (Int32.ofNat t)), (3, .int (Int32.ofNat c + Int32.ofInt 1))], [])) (lm_when ((Int32.ofInt 0) = 0 ∨ (Int32.ofInt 0) = 1) inferInstance (lm_ret (some (.int (Int32.ofInt 0))))) (lm_w M n1 x) = some R → lm_rn (lm_sc xs) (d + 4) lm_m298.2.2.2.2.1 (lm_reg lm_m298.2.2.2.2.2) (36, [(0, .ref 76), (1, .int (Int32.ofNat b)), (2, .int (Int32.ofNat t)), (3, .int (Int32.ofNat c))], []) (lm_w m1 n1 x) = some R := by
      intro R K
      clear g2 g3 hY hD hZ
      refine lm_e298_36 ?_
      unfold lm_q298_36
      rw [lm_K256]
      refine lm_geF (by omega) (by omega) (by omega) ?_
      repeat (first
    | ((with_reducible apply lm_sI); exact rfl)
    | ((with_reducible apply lm_sR); exact rfl)
    | ((with_reducible apply lm_sS); exact rfl; exact rfl)
    | ((with_reducible apply lm_sL); exact rfl)
    | ((with_reducible apply lm_sP); exact rfl; exact rfl)
    | ((with_reducible apply lm_sPL); exact rfl; exact rfl)
    | ((with_reducible apply lm_sAA); exact rfl; exact rfl)
    | ((with_reducible apply lm_sA); (first | exact rfl | assumption); omega)
    | ((with_reducible apply lm_sJ); (first | exact rfl | assumption); omega)
    | ((with_reducible apply lm_sB); (first | exact rfl | assumption); omega)
    | ((with_reducible apply lm_wA); (first | exact rfl | assumption); omega)
    | ((with_reducible apply lm_wJ); (first | exact rfl | assumption); omega)
    | ((with_reducible apply lm_wB); (first | exact rfl | assumption); omega)
    | ((with_reducible apply lm_sAl); (first | exact rfl | assumption); omega)
    | ((with_reducible apply lm_iW); decide))
      refine lm_sAA rfl (lm_roM7 t ht).1 ?_
      repeat (first
    | ((with_reducible apply lm_sI); exact rfl)
    | ((with_reducible apply lm_sR); exact rfl)
    | ((with_reducible apply lm_sS); exact rfl; exact rfl)
    | ((with_reducible apply lm_sL); exact rfl)
    | ((with_reducible apply lm_sP); exact rfl; exact rfl)
    | ((with_reducible apply lm_sPL); exact rfl; exact rfl)
    | ((with_reducible apply lm_sAA); exact rfl; exact rfl)
    | ((with_reducible apply lm_sA); (first | exact rfl | assumption); omega)
    | ((with_reducible apply lm_sJ); (first | exact rfl | assumption); omega)
    | ((with_reducible apply lm_sB); (first | exact rfl | assumption); omega)
    | ((with_reducible apply lm_wA); (first | exact rfl | assumption); omega)
    | ((with_reducible apply lm_wJ); (first | exact rfl | assumption); omega)
    | ((with_reducible apply lm_wB); (first | exact rfl | assumption); omega)
    | ((with_reducible apply lm_sAl); (first | exact rfl | assumption); omega)
    | ((with_reducible apply lm_iW); decide))
      rw [eY, eD, lm_iA, ← hz.1, eM]
      repeat (first
    | ((with_reducible apply lm_sI); exact rfl)
    | ((with_reducible apply lm_sR); exact rfl)
    | ((with_reducible apply lm_sS); exact rfl; exact rfl)
    | ((with_reducible apply lm_sL); exact rfl)
    | ((with_reducible apply lm_sP); exact rfl; exact rfl)
    | ((with_reducible apply lm_sPL); exact rfl; exact rfl)
    | ((with_reducible apply lm_sAA); exact rfl; exact rfl)
    | ((with_reducible apply lm_sA); (first | exact rfl | assumption); omega)
    | ((with_reducible apply lm_sJ); (first | exact rfl | assumption); omega)
    | ((with_reducible apply lm_sB); (first | exact rfl | assumption); omega)
    | ((with_reducible apply lm_wA); (first | exact rfl | assumption); omega)
    | ((with_reducible apply lm_wJ); (first | exact rfl | assumption); omega)
    | ((with_reducible apply lm_wB); (first | exact rfl | assumption); omega)
    | ((with_reducible apply lm_sAl); (first | exact rfl | assumption); omega)
    | ((with_reducible apply lm_iW); decide))
      refine lm_sAA rfl (lm_roM7 t ht).1 ?_
      repeat (first
    | ((with_reducible apply lm_sI); exact rfl)
    | ((with_reducible apply lm_sR); exact rfl)
    | ((with_reducible apply lm_sS); exact rfl; exact rfl)
    | ((with_reducible apply lm_sL); exact rfl)
    | ((with_reducible apply lm_sP); exact rfl; exact rfl)
    | ((with_reducible apply lm_sPL); exact rfl; exact rfl)
    | ((with_reducible apply lm_sAA); exact rfl; exact rfl)
    | ((with_reducible apply lm_sA); (first | exact rfl | assumption); omega)
    | ((with_reducible apply lm_sJ); (first | exact rfl | assumption); omega)
    | ((with_reducible apply lm_sB); (first | exact rfl | assumption); omega)
    | ((with_reducible apply lm_wA); (first | exact rfl | assumption); omega)
    | ((with_reducible apply lm_wJ); (first | exact rfl | assumption); omega)
    | ((with_reducible apply lm_wB); (first | exact rfl | assumption); omega)
    | ((with_reducible apply lm_sAl); (first | exact rfl | assumption); omega)
    | ((with_reducible apply lm_iW); decide))
      rw [show M (161 + t) c = Int32.ofInt (Z c) by rw [← eM, lm_u_eq]]
      refine lm_cI u ?_
      rw [lm_oN b]
      rw [lm_oN b] at K
      exact K
    by_cases cz : -(b : Int) < Z c ∧ Z c < b
    · refine Or.inl ⟨M, n1, ⟨rfl, fun r hr => by rw [rM r hr, g1 r hr], fun c' hc' => ?_, fun c' hc' => ?_⟩, fun R K => pre R ?_⟩
      · by_cases c0 : c' = c
        · subst c0; rw [← eM, lm_u_eq]; exact ⟨rfl, cz⟩
        · rw [← eM, lm_u_ne (fun g => c0 g.2)]; exact g2 c' (by omega)
      · rw [← eM, lm_u_ne (by omega)]; exact g3 c' (by omega)
      · refine lm_zltT (by split <;> omega) (by omega) (lm_abs_lt.mpr cz) ?_
        rw [lm_K1, lm_oo]
        exact K
    · refine Or.inr ⟨_, ⟨M, rfl, fun r hr => by rw [rM r hr, g1 r hr], c, hc, cz⟩, pre _ ?_⟩
      refine lm_zltF (by split <;> omega) (by omega) (fun g => cz (lm_abs_lt.mp g)) ?_
      exact lm_iW (by decide) rfl) 256 0 (by omega) m n ⟨rfl, fun _ _ => rfl, fun c' hc' => absurd hc' (by omega), fun _ _ => rfl⟩ with ⟨m', n', ⟨en, g1, g2, g3⟩, k1⟩ | ⟨R, ⟨m', eR, g1, g2⟩, k1⟩
  · subst en
    exact Or.inl ⟨m', g1, fun c hc => (g2 c hc).1, fun c hc => (g2 c hc).2, k1⟩
  · rw [eR] at k1
    exact Or.inr ⟨m', g1, g2, k1⟩
/-- finishMasks -/
theorem lm_u298 {Y Z : Nat → Nat → Int} {Bc : Nat → Int} {S : Nat → Nat → Int} (hs : s ≤ 2) (h : lm_DC m s) (hz : ∀ k, k < 256 → m 77 k = Int32.ofInt (lm_zd k)) (hY : ∀ t, t < lm_dl s → ∀ c, c < 256 → m (161 + t) c = Int32.ofInt (Y t c) ∧ -600000 ≤ Y t c ∧ Y t c ≤ 600000) (hB : lm_pts m 185 Bc) (hS : ∀ t, t < lm_dl s → lm_pts m (136 + t) (S t)) (hZ : ∀ t c, Z t c = Y t c + ln_ce (lm_ng Bc (S t) c % 8380417)) : (∃ m', lm_cal (lm_sc xs) (d + 5) 298 [.ref 76] (lm_w m n x) = some (.ok (some (.int 1)), lm_w m' n x) ∧ (∀ r, (r < 161 ∨ 167 < r) → r ≠ 186 → m' r = m r) ∧ ∀ t, t < lm_dl s → ∀ c, c < 256 → m' (161 + t) c = Int32.ofInt (Z t c) ∧ -((lm_dg1 s - lm_be s : Nat) : Int) < Z t c ∧ Z t c < (lm_dg1 s - lm_be s : Nat)) ∨ ∃ m', lm_cal (lm_sc xs) (d + 5) 298 [.ref 76] (lm_w m n x) = some (.ok (some (.int 0)), lm_w m' n x) ∧ (∀ r, (r < 161 ∨ 167 < r) → r ≠ 186 → m' r = m r) ∧ ∃ t c, t < lm_dl s ∧ c < 256 ∧ ¬ (-((lm_dg1 s - lm_be s : Nat) : Int) < Z t c ∧ Z t c < (lm_dg1 s - lm_be s : Nat)) := by
  have hkl := lm_dkl hs
  have hpar := lm_dpar s hs
  have head : ∀ R, lm_rn (lm_sc xs) (d + 4) lm_m298.2.2.2.2.1 (lm_reg lm_m298.2.2.2.2.2) (16, [(0, .ref 76), (1, .int (Int32.ofNat (lm_dg1 s - lm_be s))), (2, .int (Int32.ofNat 0))], []) (lm_w m n x) = some R → lm_cal (lm_sc xs) (d + 5) 298 [.ref 76] (lm_w m n x) = some R := by
    intro R K
    refine lm_cal_of (Y := lm_m298) rfl rfl (lm_e298_0 ?_)
    unfold lm_q298_0
    repeat (first
    | ((with_reducible apply lm_sI); exact rfl)
    | ((with_reducible apply lm_sR); exact rfl)
    | ((with_reducible apply lm_sS); exact rfl; exact rfl)
    | ((with_reducible apply lm_sL); exact rfl)
    | ((with_reducible apply lm_sP); exact rfl; exact rfl)
    | ((with_reducible apply lm_sPL); exact rfl; exact rfl)
    | ((with_reducible apply lm_sAA); exact rfl; exact rfl)
    | ((with_reducible apply lm_sA); (first | exact rfl | assumption); omega)
    | ((with_reducible apply lm_sJ); (first | exact rfl | assumption); omega)
    | ((with_reducible apply lm_sB); (first | exact rfl | assumption); omega)
    | ((with_reducible apply lm_wA); (first | exact rfl | assumption); omega)
    | ((with_reducible apply lm_wJ); (first | exact rfl | assumption); omega)
    | ((with_reducible apply lm_wB); (first | exact rfl | assumption); omega)
    | ((with_reducible apply lm_sAl); (first | exact rfl | assumption); omega)
    | ((with_reducible apply lm_iW); decide))
    simp only [Nat.reduceDiv, Nat.reduceMod]
    rw [h.1]
    refine ln_tb11 hs ?_
    repeat (first
    | ((with_reducible apply lm_sI); exact rfl)
    | ((with_reducible apply lm_sR); exact rfl)
    | ((with_reducible apply lm_sS); exact rfl; exact rfl)
    | ((with_reducible apply lm_sL); exact rfl)
    | ((with_reducible apply lm_sP); exact rfl; exact rfl)
    | ((with_reducible apply lm_sPL); exact rfl; exact rfl)
    | ((with_reducible apply lm_sAA); exact rfl; exact rfl)
    | ((with_reducible apply lm_sA); (first | exact rfl | assumption); omega)
    | ((with_reducible apply lm_sJ); (first | exact rfl | assumption); omega)
    | ((with_reducible apply lm_sB); (first | exact rfl | assumption); omega)
    | ((with_reducible apply lm_wA); (first | exact rfl | assumption); omega)
    | ((with_reducible apply lm_wJ); (first | exact rfl | assumption); omega)
    | ((with_reducible apply lm_wB); (first | exact rfl | assumption); omega)
    | ((with_reducible apply lm_sAl); (first | exact rfl | assumption); omega)
    | ((with_reducible apply lm_iW); decide))
    refine lm_cI (lm_u250 (d := d + 3) hs h.1) ?_
    rw [lm_osu (by omega), lm_K0]
    exact K
  rcases lm_lpe (sc := lm_sc xs) (d := d + 4) (b := lm_dl s) (hs := lm_m298.2.2.2.2.1) (code := lm_reg lm_m298.2.2.2.2.2) (x := x) (fr := fun t => (16, [(0, .ref 76), (1, .int (Int32.ofNat (lm_dg1 s - lm_be s))), (2, .int (Int32.ofNat t))], [])) (I := fun t m' n' => n' = n ∧ (∀ r, (r < 161 ∨ 161 + t ≤ r) → r ≠ 186 → m' r = m r) ∧ ∀ t', t' < t → ∀ c, c < 256 → m' (161 + t') c = Int32.ofInt (Z t' c) ∧ -((lm_dg1 s - lm_be s : Nat) : Int) < Z t' c ∧ Z t' c < (lm_dg1 s - lm_be s : Nat)) (E := fun R => ∃ m', R = (.ok (some (.int 0)), lm_w m' n x) ∧ (∀ r, (r < 161 ∨ 167 < r) → r ≠ 186 → m' r = m r) ∧ ∃ t c, t < lm_dl s ∧ c < 256 ∧ ¬ (-((lm_dg1 s - lm_be s : Nat) : Int) < Z t c ∧ Z t c < (lm_dg1 s - lm_be s : Nat))) (fun t ht m1 n1 ⟨en, g1, g2⟩ => by
    subst en
    have e76 : m1 76 = m 76 := g1 76 (by omega) (by decide)
    have p185 : ∀ c, c < 256 → m1 185 c = Int32.ofInt ((m 185 c).toInt) := fun c hc => by rw [g1 185 (by omega) (by decide), Int32.ofInt_toInt]
    obtain ⟨m2, c2, p2⟩ := lm_u309 (sc := lm_sc xs) (d := d + 1) (m := m1) (n := n1) (x := x) (p := 136 + t) (B := Bc) (F := S t) (X := fun c => (m 185 c).toInt) (Y := fun c => (m (136 + t) c).toInt) (fun k hk => by rw [g1 77 (by omega) (by decide)]; exact hz k hk) (lm_arS t (by omega)) (by omega) p185 (fun c hc => by rw [g1 _ (by omega) (by omega), Int32.ofInt_toInt]) (fun c hc => (hB c hc).2) (fun c hc => (hS t ht c hc).2) (fun c hc => (hB c hc).1) (fun c hc => (hS t ht c hc).1)
    have run : ∀ R, lm_rn (lm_sc xs) (d + 4) lm_m298.2.2.2.2.1 (lm_reg lm_m298.2.2.2.2.2) (36, [(0, .ref 76), (1, .int (Int32.ofNat (lm_dg1 s - lm_be s))), (2, .int (Int32.ofNat t)), (3, .int (Int32.ofNat 0))], []) (lm_w m2 n1 x) = some R → lm_rn (lm_sc xs) (d + 4) lm_m298.2.2.2.2.1 (lm_reg lm_m298.2.2.2.2.2) (16, [(0, .ref 76), (1, .int (Int32.ofNat (lm_dg1 s - lm_be s))), (2, .int (Int32.ofNat t))], []) (lm_w m1 n1 x) = some R := by
      intro R K
      clear g2 hB hS hY hZ
      refine lm_e298_16 ?_
      unfold lm_q298_16
      repeat (first
    | ((with_reducible apply lm_sI); exact rfl)
    | ((with_reducible apply lm_sR); exact rfl)
    | ((with_reducible apply lm_sS); exact rfl; exact rfl)
    | ((with_reducible apply lm_sL); exact rfl)
    | ((with_reducible apply lm_sP); exact rfl; exact rfl)
    | ((with_reducible apply lm_sPL); exact rfl; exact rfl)
    | ((with_reducible apply lm_sAA); exact rfl; exact rfl)
    | ((with_reducible apply lm_sA); (first | exact rfl | assumption); omega)
    | ((with_reducible apply lm_sJ); (first | exact rfl | assumption); omega)
    | ((with_reducible apply lm_sB); (first | exact rfl | assumption); omega)
    | ((with_reducible apply lm_wA); (first | exact rfl | assumption); omega)
    | ((with_reducible apply lm_wJ); (first | exact rfl | assumption); omega)
    | ((with_reducible apply lm_wB); (first | exact rfl | assumption); omega)
    | ((with_reducible apply lm_sAl); (first | exact rfl | assumption); omega)
    | ((with_reducible apply lm_iW); decide))
      simp only [Nat.reduceDiv, Nat.reduceMod]
      rw [e76, h.2.2]
      refine lm_geF (by omega) (by omega) (by omega) ?_
      repeat (first
    | ((with_reducible apply lm_sI); exact rfl)
    | ((with_reducible apply lm_sR); exact rfl)
    | ((with_reducible apply lm_sS); exact rfl; exact rfl)
    | ((with_reducible apply lm_sL); exact rfl)
    | ((with_reducible apply lm_sP); exact rfl; exact rfl)
    | ((with_reducible apply lm_sPL); exact rfl; exact rfl)
    | ((with_reducible apply lm_sAA); exact rfl; exact rfl)
    | ((with_reducible apply lm_sA); (first | exact rfl | assumption); omega)
    | ((with_reducible apply lm_sJ); (first | exact rfl | assumption); omega)
    | ((with_reducible apply lm_sB); (first | exact rfl | assumption); omega)
    | ((with_reducible apply lm_wA); (first | exact rfl | assumption); omega)
    | ((with_reducible apply lm_wJ); (first | exact rfl | assumption); omega)
    | ((with_reducible apply lm_wB); (first | exact rfl | assumption); omega)
    | ((with_reducible apply lm_sAl); (first | exact rfl | assumption); omega)
    | ((with_reducible apply lm_iW); decide))
      refine lm_sAA rfl (lm_roS t (by omega)) ?_
      repeat (first
    | ((with_reducible apply lm_sI); exact rfl)
    | ((with_reducible apply lm_sR); exact rfl)
    | ((with_reducible apply lm_sS); exact rfl; exact rfl)
    | ((with_reducible apply lm_sL); exact rfl)
    | ((with_reducible apply lm_sP); exact rfl; exact rfl)
    | ((with_reducible apply lm_sPL); exact rfl; exact rfl)
    | ((with_reducible apply lm_sAA); exact rfl; exact rfl)
    | ((with_reducible apply lm_sA); (first | exact rfl | assumption); omega)
    | ((with_reducible apply lm_sJ); (first | exact rfl | assumption); omega)
    | ((with_reducible apply lm_sB); (first | exact rfl | assumption); omega)
    | ((with_reducible apply lm_wA); (first | exact rfl | assumption); omega)
    | ((with_reducible apply lm_wJ); (first | exact rfl | assumption); omega)
    | ((with_reducible apply lm_wB); (first | exact rfl | assumption); omega)
    | ((with_reducible apply lm_sAl); (first | exact rfl | assumption); omega)
    | ((with_reducible apply lm_iW); decide))
      refine lm_cV c2 ?_
      rw [lm_K0]
      exact K
    rcases lm_l298 (xs := xs) (d := d) (n := n1) (x := x) (m := m2) (t := t) (b := lm_dg1 s - lm_be s) (Y := Y t) (Z := Z t) (D := fun c => ln_ce (lm_ng Bc (S t) c % 8380417)) (by omega) (by omega) (fun c hc => by rw [p2.1 _ (by omega), g1 _ (by omega) (by omega)]; exact (hY t ht c hc).1) (fun c hc => p2.2 c hc) (fun c hc => by
      have b1 := (hY t ht c hc).2
      have b2 := lm_ce_b (r := lm_ng Bc (S t) c % 8380417) ⟨Int.emod_nonneg _ (by decide), Int.emod_lt_of_pos _ (by decide)⟩
      rw [hZ t c]
      exact ⟨rfl, by omega, by omega⟩) with ⟨m3, i1, i2, i3, k3⟩ | ⟨m3, i1, ⟨c, hc, i2⟩, k3⟩
    · refine Or.inl ⟨m3, n1, ⟨rfl, fun r q1 q2 => by rw [i1 r (by omega), p2.1 r q2, g1 r (by omega) q2], fun t' ht' c hc => ?_⟩, fun R K => run R (k3 R (lm_e298_36 ?_))⟩
      · by_cases c0 : t' = t
        · subst c0; exact ⟨i2 c hc, i3 c hc⟩
        · rw [i1 _ (by omega), p2.1 _ (by omega)]; exact g2 t' (by omega) c hc
      · unfold lm_q298_36
        rw [lm_K256]
        refine lm_geT (by omega) (by omega) (by omega) ?_
        rw [lm_K1, lm_oo]
        exact K
    · exact Or.inr ⟨_, ⟨m3, rfl, fun r q1 q2 => by rw [i1 r (by omega), p2.1 r q2, g1 r (by omega) q2], t, c, ht, hc, i2⟩, run _ k3⟩) (lm_dl s) 0 (by omega) m n ⟨rfl, fun _ _ _ => rfl, fun t' ht' => absurd ht' (by omega)⟩ with ⟨m', n', ⟨en, g1, g2⟩, k1⟩ | ⟨R, ⟨m', eR, g1, g2⟩, k1⟩
  · subst en
    refine Or.inl ⟨m', head _ (k1 _ (lm_e298_16 ?_)), fun r q1 q2 => g1 r (by omega) q2, g2⟩
    clear g2
    unfold lm_q298_16
    repeat (first
    | ((with_reducible apply lm_sI); exact rfl)
    | ((with_reducible apply lm_sR); exact rfl)
    | ((with_reducible apply lm_sS); exact rfl; exact rfl)
    | ((with_reducible apply lm_sL); exact rfl)
    | ((with_reducible apply lm_sP); exact rfl; exact rfl)
    | ((with_reducible apply lm_sPL); exact rfl; exact rfl)
    | ((with_reducible apply lm_sAA); exact rfl; exact rfl)
    | ((with_reducible apply lm_sA); (first | exact rfl | assumption); omega)
    | ((with_reducible apply lm_sJ); (first | exact rfl | assumption); omega)
    | ((with_reducible apply lm_sB); (first | exact rfl | assumption); omega)
    | ((with_reducible apply lm_wA); (first | exact rfl | assumption); omega)
    | ((with_reducible apply lm_wJ); (first | exact rfl | assumption); omega)
    | ((with_reducible apply lm_wB); (first | exact rfl | assumption); omega)
    | ((with_reducible apply lm_sAl); (first | exact rfl | assumption); omega)
    | ((with_reducible apply lm_iW); decide))
    simp only [Nat.reduceDiv, Nat.reduceMod]
    rw [g1 76 (by omega) (by decide), h.2.2]
    refine lm_geT (by omega) (by omega) (by omega) ?_
    exact lm_iW (by decide) rfl
  · rw [eR] at k1
    exact Or.inr ⟨m', head _ k1, g1, g2⟩
end LMDW
