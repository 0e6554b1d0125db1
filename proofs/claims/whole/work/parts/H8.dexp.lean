/-! ===== Dsa: expand of the class ===== -/
/-- the polynomial at row i, column j of the matrix -/
def lm_xA (C : lm_CX) (K : Nat → Int32) (a i j : Nat) : Nat × (Nat → Nat) := lm_dw' (lm_B11 C (ln_gs K a (Int32.ofNat j) (Int32.ofNat i))) 298
section LMDX
variable {xs : List Int32} {C : lm_CX} {d k l q v a : Nat} {m : lm_MI} {n : lm_ML} {x : lm_H × Nat × Nat} {G : Nat → Int32}
def lm_I232 (C : lm_CX) (l q a : Nat) (m0 : lm_MI) (n0 : lm_ML) (i j : Nat) (m : lm_MI) (n : lm_ML) : Prop := (∀ r, (r < 5 ∨ 22 < r) → r ≠ 188 → r ≠ 190 → (r < 79 ∨ 134 < r) → m r = m0 r) ∧ lm_fN m0 n0 m n ∧ (∀ t, t < 32 → lm_b8 (m 190 t) = lm_b8 (m0 q (a + t))) ∧ ∀ i' j', j' < l → (i' < i ∨ (i' = i ∧ j' < j)) → (lm_xA C (m0 q) a i' j').1 = 256 ∧ ∀ c, c < 256 → m (79 + (i' * l + j')) c = Int32.ofNat ((lm_xA C (m0 q) a i' j').2 c)
def lm_E232 (C : lm_CX) (k l q a : Nat) (m0 : lm_MI) (n0 : lm_ML) (x : lm_H × Nat × Nat) (R : Except Nat lm_R × lm_S) : Prop := ∃ m n, R = (.error (lm_xp x), lm_w m n (lm_xx 15 x)) ∧ (∀ r, (r < 5 ∨ 22 < r) → r ≠ 188 → r ≠ 190 → (r < 79 ∨ 134 < r) → m r = m0 r) ∧ lm_fN m0 n0 m n ∧ ∃ i j, i < k ∧ j < l ∧ (lm_xA C (m0 q) a i j).1 ≠ 256
theorem lm_l232j {i : Nat} (hC : lm_Cok xs C) (hr : ln_rt m) (hx : lm_rom x) (hl : m 76 19 = Int32.ofNat l) (hl2 : l ≤ 7) (hk8 : k ≤ 8) (hi : i < k) {m1 : lm_MI} {n1 : lm_ML} (h : lm_I232 C l q a m n i 0 m1 n1) : (∃ m' n', lm_I232 C l q a m n i l m' n' ∧ ∀ R, lm_rn (lm_sc xs) (d + 5) lm_m232.2.2.2.2.1 (lm_reg lm_m232.2.2.2.2.2) (25, [(0, .ref 76), (3, .int (Int32.ofNat i)), (4, .int (Int32.ofNat l))], []) (lm_w m' n' x) = some R → lm_rn (lm_sc xs) (d + 5) lm_m232.2.2.2.2.1 (lm_reg lm_m232.2.2.2.2.2) (25, [(0, .ref 76), (3, .int (Int32.ofNat i)), (4, .int (Int32.ofNat 0))], []) (lm_w m1 n1 x) = some R) ∨ ∃ R, lm_E232 C k l q a m n x R ∧ lm_rn (lm_sc xs) (d + 5) lm_m232.2.2.2.2.1 (lm_reg lm_m232.2.2.2.2.2) (25, [(0, .ref 76), (3, .int (Int32.ofNat i)), (4, .int (Int32.ofNat 0))], []) (lm_w m1 n1 x) = some R := by
  refine lm_lpe (sc := lm_sc xs) (d := d + 5) (b := l) (hs := lm_m232.2.2.2.2.1) (code := lm_reg lm_m232.2.2.2.2.2) (x := x) (fr := fun j => (25, [(0, .ref 76), (3, .int (Int32.ofNat i)), (4, .int (Int32.ofNat j))], [])) (I := fun j m' n' => lm_I232 C l q a m n i j m' n') (E := lm_E232 C k l q a m n x) (fun j hj m2 n2 h2 => ?_) l 0 (by omega) m1 n1 h
  obtain ⟨g1, g2, g3, g4⟩ := h2
  have hik : i * l + l ≤ 8 * 7 := by
    rw [← Nat.succ_mul]
    exact Nat.mul_le_mul (by omega) hl2
  have hl' : m2 76 19 = Int32.ofNat l := by rw [g1 76 (by decide) (by decide) (by decide) (by decide)]; exact hl
  generalize eM : lm_u (lm_u m2 190 32 (lm_b8 (Int32.ofNat j))) 190 33 (lm_b8 (Int32.ofNat i)) = M
  have eMr : ∀ r, r ≠ 190 → M r = m2 r := fun r hr => by rw [← eM, lm_u_row hr, lm_u_row hr]
  have hG : ∀ t, t < 34 → lm_b8 (M 190 t) = ln_gs (m q) a (Int32.ofNat j) (Int32.ofNat i) t := fun t ht => by
    unfold ln_gs
    by_cases c1 : t < 32
    · rw [if_pos c1, ← eM, lm_u_ne (by omega), lm_u_ne (by omega)]
      exact g3 t c1
    · rw [if_neg c1]
      by_cases c2 : t = 32
      · rw [if_pos c2, c2, ← eM, lm_u_ne (by decide), lm_u_eq, lm_b8b8]
      · rw [if_neg c2, show t = 33 by omega, ← eM, lm_u_eq, lm_b8b8]
  have hrM : ln_rt M := by
    have := g2.rt hr
    exact ⟨by rw [eMr 11 (by decide)]; exact this.1, by rw [eMr 17 (by decide)]; exact this.2⟩
  have pre : ∀ R, lm_bind (lm_asV (lm_cal (lm_sc xs) (d + 5) 292 [.ref 76, .ref (79 + (i * l + j))])) (fun _ => lm_rn (lm_sc xs) (d + 5) lm_m232.2.2.2.2.1 (lm_reg lm_m232.2.2.2.2.2) (25, [(0, .ref 76), (3, .int (Int32.ofNat i)), (4, .int (Int32.ofNat j + Int32.ofInt 1))], [])) (lm_w M n2 x) = some R → lm_rn (lm_sc xs) (d + 5) lm_m232.2.2.2.2.1 (lm_reg lm_m232.2.2.2.2.2) (25, [(0, .ref 76), (3, .int (Int32.ofNat i)), (4, .int (Int32.ofNat j))], []) (lm_w m2 n2 x) = some R := by
    intro R K
    refine lm_e232_25 ?_
    unfold lm_q232_25
    repeat (first
    | ((with_reducible apply lm_sI); exact rfl)
    | ((with_reducible apply lm_sR); exact rfl)
    | ((with_reducible apply lm_sS); exact rfl; exact rfl)
    | ((with_reducible apply lm_sL); exact rfl)
    | ((with_reducible apply lm_sP); exact rfl; exact rfl)
    | ((with_reducible apply lm_sPL); exact rfl; exact rfl)
    | ((with_reducible apply lm_sAA); exact rfl; exact rfl)
    | ((with_reducible apply lm_sA); (first | exact rfl | assumption); omega)
    | ((with_reducible apply lm_sJ); (first | exact rfl | assumption); omega)
    | ((with_reducible apply lm_sB); (first | exact rfl | assumption); omega)
    | ((with_reducible apply lm_wA); (first | exact rfl | assumption); omega)
    | ((with_reducible apply lm_wJ); (first | exact rfl | assumption); omega)
    | ((with_reducible apply lm_wB); (first | exact rfl | assumption); omega)
    | ((with_reducible apply lm_sAl); (first | exact rfl | assumption); omega)
    | ((with_reducible apply lm_iW); decide))
    simp only [Nat.reduceDiv, Nat.reduceMod]
    rw [hl']
    refine lm_geF (by omega) (by omega) (by omega) ?_
    rw [lm_K32, lm_K33]
    repeat (first
    | ((with_reducible apply lm_sI); exact rfl)
    | ((with_reducible apply lm_sR); exact rfl)
    | ((with_reducible apply lm_sS); exact rfl; exact rfl)
    | ((with_reducible apply lm_sL); exact rfl)
    | ((with_reducible apply lm_sP); exact rfl; exact rfl)
    | ((with_reducible apply lm_sPL); exact rfl; exact rfl)
    | ((with_reducible apply lm_sAA); exact rfl; exact rfl)
    | ((with_reducible apply lm_sA); (first | exact rfl | assumption); omega)
    | ((with_reducible apply lm_sJ); (first | exact rfl | assumption); omega)
    | ((with_reducible apply lm_sB); (first | exact rfl | assumption); omega)
    | ((with_reducible apply lm_wA); (first | exact rfl | assumption); omega)
    | ((with_reducible apply lm_wJ); (first | exact rfl | assumption); omega)
    | ((with_reducible apply lm_wB); (first | exact rfl | assumption); omega)
    | ((with_reducible apply lm_sAl); (first | exact rfl | assumption); omega)
    | ((with_reducible apply lm_iW); decide))
    rw [eM]
    repeat (first
    | ((with_reducible apply lm_sI); exact rfl)
    | ((with_reducible apply lm_sR); exact rfl)
    | ((with_reducible apply lm_sS); exact rfl; exact rfl)
    | ((with_reducible apply lm_sL); exact rfl)
    | ((with_reducible apply lm_sP); exact rfl; exact rfl)
    | ((with_reducible apply lm_sPL); exact rfl; exact rfl)
    | ((with_reducible apply lm_sAA); exact rfl; exact rfl)
    | ((with_reducible apply lm_sA); (first | exact rfl | assumption); omega)
    | ((with_reducible apply lm_sJ); (first | exact rfl | assumption); omega)
    | ((with_reducible apply lm_sB); (first | exact rfl | assumption); omega)
    | ((with_reducible apply lm_wA); (first | exact rfl | assumption); omega)
    | ((with_reducible apply lm_wJ); (first | exact rfl | assumption); omega)
    | ((with_reducible apply lm_wB); (first | exact rfl | assumption); omega)
    | ((with_reducible apply lm_sAl); (first | exact rfl | assumption); omega)
    | ((with_reducible apply lm_iW); decide))
    simp only [Nat.reduceDiv, Nat.reduceMod]
    rw [eMr 76 (by decide), hl', lm_om, lm_oo]
    refine lm_sAA rfl (lm_roA _ (by omega)) ?_
    repeat (first
    | ((with_reducible apply lm_sI); exact rfl)
    | ((with_reducible apply lm_sR); exact rfl)
    | ((with_reducible apply lm_sS); exact rfl; exact rfl)
    | ((with_reducible apply lm_sL); exact rfl)
    | ((with_reducible apply lm_sP); exact rfl; exact rfl)
    | ((with_reducible apply lm_sPL); exact rfl; exact rfl)
    | ((with_reducible apply lm_sAA); exact rfl; exact rfl)
    | ((with_reducible apply lm_sA); (first | exact rfl | assumption); omega)
    | ((with_reducible apply lm_sJ); (first | exact rfl | assumption); omega)
    | ((with_reducible apply lm_sB); (first | exact rfl | assumption); omega)
    | ((with_reducible apply lm_wA); (first | exact rfl | assumption); omega)
    | ((with_reducible apply lm_wJ); (first | exact rfl | assumption); omega)
    | ((with_reducible apply lm_wB); (first | exact rfl | assumption); omega)
    | ((with_reducible apply lm_sAl); (first | exact rfl | assumption); omega)
    | ((with_reducible apply lm_iW); decide))
    exact K
  obtain ⟨m3, n3, f1, f2, f3, f4, f5⟩ := lm_u292 (xs := xs) (d := d) (n := n2) (x := x) (p := 79 + (i * l + j)) hC hrM (lm_arA _ (by omega)) (by omega) (by omega) hG
  have fr1 : ∀ r, (r < 5 ∨ 22 < r) → r ≠ 188 → r ≠ 190 → (r < 79 ∨ 134 < r) → m3 r = m r := fun r h1 h2 h3 h4 => by
    rw [f1 r h1 h2 (by omega), eMr r h3, g1 r h1 h2 h3 h4]
  have fr2 : lm_fN m n m3 n3 := g2.tr ((lm_fN.of (eMr 11 (by decide)) (eMr 17 (by decide))).tr f2)
  have ek : lm_dw' (lm_B11 C (ln_gs (m q) a (Int32.ofNat j) (Int32.ofNat i))) 298 = lm_xA C (m q) a i j := rfl
  rw [ek] at f3 f4 f5
  by_cases c : (lm_xA C (m q) a i j).1 = 256
  · refine Or.inl ⟨m3, n3, ⟨fr1, fr2, fun t ht => ?_, fun i' j' hj' hlt => ?_⟩, fun R K => pre R (lm_cV (f4 c) (by rw [lm_K1, lm_oo]; exact K))⟩
    · rw [f1 190 (by decide) (by decide) (by omega), ← eM, lm_u_ne (by omega), lm_u_ne (by omega)]
      exact g3 t ht
    · by_cases c2 : i' = i ∧ j' = j
      · obtain ⟨e1, e2⟩ := c2
        subst e1
        subst e2
        exact ⟨c, fun t ht => f3 t (by rw [c]; exact ht)⟩
      · have hlt2 : i' < i ∨ (i' = i ∧ j' < j) := by omega
        obtain ⟨a1, a2⟩ := g4 i' j' hj' hlt2
        refine ⟨a1, fun t ht => ?_⟩
        have hne : i' * l + j' ≠ i * l + j := by
          rcases hlt2 with l1 | ⟨l1, l2⟩
          · have : (i' + 1) * l ≤ i * l := Nat.mul_le_mul_right l l1
            rw [Nat.succ_mul] at this
            omega
          · subst l1
            omega
        have hle : i' * l + j' < 56 := by
          rcases hlt2 with l1 | ⟨l1, l2⟩
          · have : (i' + 1) * l ≤ i * l := Nat.mul_le_mul_right l l1
            rw [Nat.succ_mul] at this
            omega
          · subst l1
            omega
        rw [f1 (79 + (i' * l + j')) (by omega) (by omega) (by omega), eMr _ (by omega)]
        exact a2 t ht
  · exact Or.inr ⟨_, ⟨m3, n3, rfl, fr1, fr2, i, j, hi, hj, c⟩, pre _ (lm_cVe (f5 c hx))⟩
/-- expand -/
theorem lm_u232 (hC : lm_Cok xs C) (hr : ln_rt m) (hx : lm_rom x) (hk : m 76 18 = Int32.ofNat k) (hl : m 76 19 = Int32.ofNat l) (hk8 : k ≤ 8) (hl2 : l ≤ 7) (hq : lm_ar q = some (1, v)) (hav : a + 32 ≤ v) (hv : v ≤ 70000) : (∃ m' n', lm_cal (lm_sc xs) (d + 6) 232 [.ref 76, .ref q, .int (Int32.ofNat a)] (lm_w m n x) = some (.ok none, lm_w m' n' x) ∧ (∀ r, (r < 5 ∨ 22 < r) → r ≠ 188 → r ≠ 190 → (r < 79 ∨ 134 < r) → m' r = m r) ∧ lm_fN m n m' n' ∧ ∀ i j, i < k → j < l → (lm_xA C (m q) a i j).1 = 256 ∧ ∀ c, c < 256 → m' (79 + (i * l + j)) c = Int32.ofNat ((lm_xA C (m q) a i j).2 c)) ∨ ∃ R, lm_E232 C k l q a m n x R ∧ lm_cal (lm_sc xs) (d + 6) 232 [.ref 76, .ref q, .int (Int32.ofNat a)] (lm_w m n x) = some R := by
  have start : ∀ R, lm_rn (lm_sc xs) (d + 5) lm_m232.2.2.2.2.1 (lm_reg lm_m232.2.2.2.2.2) (14, [(0, .ref 76), (3, .int (Int32.ofNat 0))], []) (lm_w (lm_cp m 190 0 q a 32) n x) = some R → lm_cal (lm_sc xs) (d + 6) 232 [.ref 76, .ref q, .int (Int32.ofNat a)] (lm_w m n x) = some R := by
    intro R K
    refine lm_cal_of (Y := lm_m232) rfl rfl (lm_e232_0 ?_)
    unfold lm_q232_0
    rw [lm_K0, lm_K32]
    repeat (first
    | ((with_reducible apply lm_sI); exact rfl)
    | ((with_reducible apply lm_sR); exact rfl)
    | ((with_reducible apply lm_sS); exact rfl; exact rfl)
    | ((with_reducible apply lm_sL); exact rfl)
    | ((with_reducible apply lm_sP); exact rfl; exact rfl)
    | ((with_reducible apply lm_sPL); exact rfl; exact rfl)
    | ((with_reducible apply lm_sAA); exact rfl; exact rfl)
    | ((with_reducible apply lm_sA); (first | exact rfl | assumption); omega)
    | ((with_reducible apply lm_sJ); (first | exact rfl | assumption); omega)
    | ((with_reducible apply lm_sB); (first | exact rfl | assumption); omega)
    | ((with_reducible apply lm_wA); (first | exact rfl | assumption); omega)
    | ((with_reducible apply lm_wJ); (first | exact rfl | assumption); omega)
    | ((with_reducible apply lm_wB); (first | exact rfl | assumption); omega)
    | ((with_reducible apply lm_sAl); (first | exact rfl | assumption); omega)
    | ((with_reducible apply lm_iW); decide))
    exact lm_sCp (u := 1) hq rfl (Or.inr rfl) (by omega) (by decide) K
  have h0 : lm_I232 C l q a m n 0 0 (lm_cp m 190 0 q a 32) n := ⟨fun r _ _ h3 _ => lm_cp_row h3, .of (lm_cp_row (by decide)) (lm_cp_row (by decide)), fun t ht => by
    rw [lm_rc, if_pos ⟨rfl, by omega, by omega⟩, Nat.sub_zero, Nat.add_comm t a], fun i' j' hj' hlt => absurd hlt (by omega)⟩
  rcases lm_lpe (sc := lm_sc xs) (d := d + 5) (b := k) (hs := lm_m232.2.2.2.2.1) (code := lm_reg lm_m232.2.2.2.2.2) (x := x) (fr := fun i => (14, [(0, .ref 76), (3, .int (Int32.ofNat i))], [])) (I := fun i m' n' => lm_I232 C l q a m n i 0 m' n') (E := lm_E232 C k l q a m n x) (fun i hi m1 n1 h1 => by
    have hk' : m1 76 18 = Int32.ofNat k := by rw [h1.1 76 (by decide) (by decide) (by decide) (by decide)]; exact hk
    have pre : ∀ R, lm_rn (lm_sc xs) (d + 5) lm_m232.2.2.2.2.1 (lm_reg lm_m232.2.2.2.2.2) (25, [(0, .ref 76), (3, .int (Int32.ofNat i)), (4, .int (Int32.ofNat 0))], []) (lm_w m1 n1 x) = some R → lm_rn (lm_sc xs) (d + 5) lm_m232.2.2.2.2.1 (lm_reg lm_m232.2.2.2.2.2) (14, [(0, .ref 76), (3, .int (Int32.ofNat i))], []) (lm_w m1 n1 x) = some R := by
      intro R K
      refine lm_e232_14 ?_
      unfold lm_q232_14
      repeat (first
    | ((with_reducible apply lm_sI); exact rfl)
    | ((with_reducible apply lm_sR); exact rfl)
    | ((with_reducible apply lm_sS); exact rfl; exact rfl)
    | ((with_reducible apply lm_sL); exact rfl)
    | ((with_reducible apply lm_sP); exact rfl; exact rfl)
    | ((with_reducible apply lm_sPL); exact rfl; exact rfl)
    | ((with_reducible apply lm_sAA); exact rfl; exact rfl)
    | ((with_reducible apply lm_sA); (first | exact rfl | assumption); omega)
    | ((with_reducible apply lm_sJ); (first | exact rfl | assumption); omega)
    | ((with_reducible apply lm_sB); (first | exact rfl | assumption); omega)
    | ((with_reducible apply lm_wA); (first | exact rfl | assumption); omega)
    | ((with_reducible apply lm_wJ); (first | exact rfl | assumption); omega)
    | ((with_reducible apply lm_wB); (first | exact rfl | assumption); omega)
    | ((with_reducible apply lm_sAl); (first | exact rfl | assumption); omega)
    | ((with_reducible apply lm_iW); decide))
      simp only [Nat.reduceDiv, Nat.reduceMod]
      rw [hk']
      refine lm_geF (by omega) (by omega) (by omega) ?_
      rw [lm_K0]
      exact K
    rcases lm_l232j (xs := xs) (d := d) (x := x) (k := k) (q := q) (a := a) hC hr hx hl hl2 hk8 hi h1 with ⟨m2, n2, h2, k2⟩ | ⟨R, hR, k2⟩
    · have hl' : m2 76 19 = Int32.ofNat l := by rw [h2.1 76 (by decide) (by decide) (by decide) (by decide)]; exact hl
      refine Or.inl ⟨m2, n2, ⟨h2.1, h2.2.1, h2.2.2.1, fun i' j' hj' hlt => h2.2.2.2 i' j' hj' (by omega)⟩, fun R K => pre R (k2 R (lm_e232_25 ?_))⟩
      clear h2
      unfold lm_q232_25
      repeat (first
    | ((with_reducible apply lm_sI); exact rfl)
    | ((with_reducible apply lm_sR); exact rfl)
    | ((with_reducible apply lm_sS); exact rfl; exact rfl)
    | ((with_reducible apply lm_sL); exact rfl)
    | ((with_reducible apply lm_sP); exact rfl; exact rfl)
    | ((with_reducible apply lm_sPL); exact rfl; exact rfl)
    | ((with_reducible apply lm_sAA); exact rfl; exact rfl)
    | ((with_reducible apply lm_sA); (first | exact rfl | assumption); omega)
    | ((with_reducible apply lm_sJ); (first | exact rfl | assumption); omega)
    | ((with_reducible apply lm_sB); (first | exact rfl | assumption); omega)
    | ((with_reducible apply lm_wA); (first | exact rfl | assumption); omega)
    | ((with_reducible apply lm_wJ); (first | exact rfl | assumption); omega)
    | ((with_reducible apply lm_wB); (first | exact rfl | assumption); omega)
    | ((with_reducible apply lm_sAl); (first | exact rfl | assumption); omega)
    | ((with_reducible apply lm_iW); decide))
      simp only [Nat.reduceDiv, Nat.reduceMod]
      rw [hl']
      refine lm_geT (by omega) (by omega) (by omega) ?_
      rw [lm_K1, lm_oo]
      exact K
    · exact Or.inr ⟨R, hR, pre R k2⟩) k 0 (by omega) _ _ h0 with ⟨m', n', h1, k1⟩ | ⟨R, hR, k1⟩
  · have hk' : m' 76 18 = Int32.ofNat k := by rw [h1.1 76 (by decide) (by decide) (by decide) (by decide)]; exact hk
    refine Or.inl ⟨m', n', start _ (k1 _ (lm_e232_14 ?_)), h1.1, h1.2.1, fun i j hi hj => h1.2.2.2 i j hj (Or.inl hi)⟩
    clear h1
    unfold lm_q232_14
    repeat (first
    | ((with_reducible apply lm_sI); exact rfl)
    | ((with_reducible apply lm_sR); exact rfl)
    | ((with_reducible apply lm_sS); exact rfl; exact rfl)
    | ((with_reducible apply lm_sL); exact rfl)
    | ((with_reducible apply lm_sP); exact rfl; exact rfl)
    | ((with_reducible apply lm_sPL); exact rfl; exact rfl)
    | ((with_reducible apply lm_sAA); exact rfl; exact rfl)
    | ((with_reducible apply lm_sA); (first | exact rfl | assumption); omega)
    | ((with_reducible apply lm_sJ); (first | exact rfl | assumption); omega)
    | ((with_reducible apply lm_sB); (first | exact rfl | assumption); omega)
    | ((with_reducible apply lm_wA); (first | exact rfl | assumption); omega)
    | ((with_reducible apply lm_wJ); (first | exact rfl | assumption); omega)
    | ((with_reducible apply lm_wB); (first | exact rfl | assumption); omega)
    | ((with_reducible apply lm_sAl); (first | exact rfl | assumption); omega)
    | ((with_reducible apply lm_iW); decide))
    simp only [Nat.reduceDiv, Nat.reduceMod]
    rw [hk']
    exact lm_geT (by omega) (by omega) (by omega) rfl
  · exact Or.inr ⟨R, hR, start R k1⟩
end LMDX
