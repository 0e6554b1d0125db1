/-! ===== dsaVerify: the hints' order ===== -/
/-- the count ahead of a row -/
def lm_pv (cn : Nat → Nat) : Nat → Nat
  | 0 => 0
  | i + 1 => cn i
/-- a row's hints are good -/
def lm_hr (hb cn : Nat → Nat) (w i : Nat) : Prop := lm_pv cn i ≤ cn i ∧ cn i ≤ w ∧ ∀ j, lm_pv cn i < j → j < cn i → hb (j - 1) < hb j
def lm_ho' (hb cn : Nat → Nat) (w k : Nat) : Prop := (∀ i, i < k → lm_hr hb cn w i) ∧ ∀ j, lm_pv cn k ≤ j → j < w → hb j = 0
/-- the bytes of a packet's hints -/
def lm_vh (Q : Nat → Int32) (s j : Nat) : Nat := lm_yb (Q (lm_dsz s + 32 * lm_dw s * lm_dl s + j))
def lm_vc (Q : Nat → Int32) (s i : Nat) : Nat := lm_yb (Q (lm_dsz s + 32 * lm_dw s * lm_dl s + lm_do s + i))
section LMVA
variable {xs : List Int32} {d s : Nat} {m : lm_MI} {n : lm_ML} {x : lm_H × Nat × Nat}
theorem lm_vPb (hs : s ≤ 2) : lm_dsz s + 32 * lm_dw s * lm_dl s + lm_do s + lm_dk s ≤ 5000 := by
  have hpar := lm_dpar s hs
  have hkl := lm_dkl hs
  have : 32 * lm_dw s * lm_dl s ≤ 640 * 7 := Nat.mul_le_mul (by omega) (by omega)
  omega
theorem lm_pv_le {hb cn : Nat → Nat} {w k : Nat} (h : ∀ i, i < k → lm_hr hb cn w i) : lm_pv cn k ≤ w := by
  cases k with
  | zero => exact Nat.zero_le _
  | succ k => exact (h k (by omega)).2.1
set_option maxRecDepth 100000 in
theorem lm_u249 (hs : s ≤ 2) (h : lm_DC m s) : (lm_cal (lm_sc xs) (d + 3) 249 [.ref 76, .ref 37] (lm_w m n x) = some (.ok (some (.int 1)), lm_w m n x) ∧ lm_ho' (lm_vh (m 37) s) (lm_vc (m 37) s) (lm_do s) (lm_dk s)) ∨ (lm_cal (lm_sc xs) (d + 3) 249 [.ref 76, .ref 37] (lm_w m n x) = some (.ok (some (.int 0)), lm_w m n x) ∧ ¬ lm_ho' (lm_vh (m 37) s) (lm_vc (m 37) s) (lm_do s) (lm_dk s)) := by
  have hkl := lm_dkl hs
  have hpar := lm_dpar s hs
  have hP := lm_vPb hs
  have hps := lm_dps_e s
  have eH : ∀ j, lm_b8 (m 37 (lm_dsz s + 32 * lm_dw s * lm_dl s + j)) &&& Int32.ofInt 255 = Int32.ofNat (lm_vh (m 37) s j) := fun j => lm_b8u _
  have eC : ∀ i, lm_b8 (m 37 (lm_dsz s + 32 * lm_dw s * lm_dl s + lm_do s + i)) &&& Int32.ofInt 255 = Int32.ofNat (lm_vc (m 37) s i) := fun i => lm_b8u _
  have bH : ∀ j, lm_vh (m 37) s j < 256 := fun j => lm_yb_lt _
  have bC : ∀ i, lm_vc (m 37) s i < 256 := fun i => lm_yb_lt _
  have zH : ∀ j, lm_vh (m 37) s j = 0 ↔ lm_b8 (m 37 (lm_dsz s + 32 * lm_dw s * lm_dl s + j)) = 0 := fun j => by
    constructor
    · intro e
      have : lm_yb (m 37 (lm_dsz s + 32 * lm_dw s * lm_dl s + j)) = lm_yb 0 := e
      rw [lm_b8_eq this]
      decide
    · intro e
      show lm_yb (m 37 (lm_dsz s + 32 * lm_dw s * lm_dl s + j)) = 0
      rw [← lm_yb_b8, e]
      rfl
  generalize lm_vh (m 37) s = hb at *
  generalize lm_vc (m 37) s = cn at *
  generalize eP : lm_dsz s + 32 * lm_dw s * lm_dl s = P at *
  have head : ∀ R, lm_rn (lm_sc xs) (d + 2) lm_m249.2.2.2.2.1 (lm_reg lm_m249.2.2.2.2.2) (27, [(0, .ref 76), (1, .ref 37), (2, .int (Int32.ofNat (lm_do s))), (3, .int (Int32.ofNat P)), (4, .int (Int32.ofNat (lm_pv cn 0))), (5, .int (Int32.ofNat 0))], []) (lm_w m n x) = some R → lm_cal (lm_sc xs) (d + 3) 249 [.ref 76, .ref 37] (lm_w m n x) = some R := by
    intro R K
    refine lm_cal_of (Y := lm_m249) rfl rfl (lm_e249_0 ?_)
    unfold lm_q249_0
    repeat (first
    | ((with_reducible apply lm_sI); exact rfl)
    | ((with_reducible apply lm_sR); exact rfl)
    | ((with_reducible apply lm_sS); exact rfl; exact rfl)
    | ((with_reducible apply lm_sL); exact rfl)
    | ((with_reducible apply lm_sP); exact rfl; exact rfl)
    | ((with_reducible apply lm_sPL); exact rfl; exact rfl)
    | ((with_reducible apply lm_sAA); exact rfl; exact rfl)
    | ((with_reducible apply lm_sA); (first | exact rfl | assumption); omega)
    | ((with_reducible apply lm_sJ); (first | exact rfl | assumption); omega)
    | ((with_reducible apply lm_sB); (first | exact rfl | assumption); omega)
    | ((with_reducible apply lm_wA); (first | exact rfl | assumption); omega)
    | ((with_reducible apply lm_wJ); (first | exact rfl | assumption); omega)
    | ((with_reducible apply lm_wB); (first | exact rfl | assumption); omega)
    | ((with_reducible apply lm_sAl); (first | exact rfl | assumption); omega)
    | ((with_reducible apply lm_iW); decide))
    simp only [Nat.reduceDiv, Nat.reduceMod]
    rw [h.1]
    refine ln_tb15 hs ?_
    repeat (first
    | ((with_reducible apply lm_sI); exact rfl)
    | ((with_reducible apply lm_sR); exact rfl)
    | ((with_reducible apply lm_sS); exact rfl; exact rfl)
    | ((with_reducible apply lm_sL); exact rfl)
    | ((with_reducible apply lm_sP); exact rfl; exact rfl)
    | ((with_reducible apply lm_sPL); exact rfl; exact rfl)
    | ((with_reducible apply lm_sAA); exact rfl; exact rfl)
    | ((with_reducible apply lm_sA); (first | exact rfl | assumption); omega)
    | ((with_reducible apply lm_sJ); (first | exact rfl | assumption); omega)
    | ((with_reducible apply lm_sB); (first | exact rfl | assumption); omega)
    | ((with_reducible apply lm_wA); (first | exact rfl | assumption); omega)
    | ((with_reducible apply lm_wJ); (first | exact rfl | assumption); omega)
    | ((with_reducible apply lm_wB); (first | exact rfl | assumption); omega)
    | ((with_reducible apply lm_sAl); (first | exact rfl | assumption); omega)
    | ((with_reducible apply lm_iW); decide))
    refine lm_cI (lm_u248 (d := d) hs h) ?_
    repeat (first
    | ((with_reducible apply lm_sI); exact rfl)
    | ((with_reducible apply lm_sR); exact rfl)
    | ((with_reducible apply lm_sS); exact rfl; exact rfl)
    | ((with_reducible apply lm_sL); exact rfl)
    | ((with_reducible apply lm_sP); exact rfl; exact rfl)
    | ((with_reducible apply lm_sPL); exact rfl; exact rfl)
    | ((with_reducible apply lm_sAA); exact rfl; exact rfl)
    | ((with_reducible apply lm_sA); (first | exact rfl | assumption); omega)
    | ((with_reducible apply lm_sJ); (first | exact rfl | assumption); omega)
    | ((with_reducible apply lm_sB); (first | exact rfl | assumption); omega)
    | ((with_reducible apply lm_wA); (first | exact rfl | assumption); omega)
    | ((with_reducible apply lm_wJ); (first | exact rfl | assumption); omega)
    | ((with_reducible apply lm_wB); (first | exact rfl | assumption); omega)
    | ((with_reducible apply lm_sAl); (first | exact rfl | assumption); omega)
    | ((with_reducible apply lm_iW); decide))
    simp only [Nat.reduceDiv, Nat.reduceMod]
    rw [h.2.1, lm_osu (by omega), lm_osu (by omega), show lm_dps s - lm_do s - lm_dk s = P by omega]
    exact K
  rcases lm_lpe (sc := lm_sc xs) (d := d + 2) (b := lm_dk s) (hs := lm_m249.2.2.2.2.1) (code := lm_reg lm_m249.2.2.2.2.2) (x := x) (fr := fun i => (27, [(0, .ref 76), (1, .ref 37), (2, .int (Int32.ofNat (lm_do s))), (3, .int (Int32.ofNat P)), (4, .int (Int32.ofNat (lm_pv cn i))), (5, .int (Int32.ofNat i))], [])) (I := fun i m' n' => m' = m ∧ n' = n ∧ ∀ i', i' < i → lm_hr hb cn (lm_do s) i') (E := fun R => R = (.ok (some (.int 0)), lm_w m n x) ∧ ¬ ∀ i', i' < lm_dk s → lm_hr hb cn (lm_do s) i') (fun i hi m1 n1 ⟨em, en, g⟩ => by
    subst em
    subst en
    have hpv := lm_pv_le g
    have bc := bC i
    have pre : ∀ R, lm_if .lt (Int32.ofNat (cn i)) (Int32.ofNat (lm_pv cn i)) (lm_when ((Int32.ofInt 0) = 0 ∨ (Int32.ofInt 0) = 1) inferInstance (lm_ret (some (.int (Int32.ofInt 0))))) (lm_if .le (Int32.ofNat (cn i)) (Int32.ofNat (lm_do s)) (lm_rn (lm_sc xs) (d + 2) lm_m249.2.2.2.2.1 (lm_reg lm_m249.2.2.2.2.2) (71, [(0, .ref 76), (1, .ref 37), (2, .int (Int32.ofNat (lm_do s))), (3, .int (Int32.ofNat P)), (5, .int (Int32.ofNat i)), (6, .int (Int32.ofNat (cn i))), (7, .int (Int32.ofNat (lm_pv cn i + 1)))], [])) (lm_when ((Int32.ofInt 0) = 0 ∨ (Int32.ofInt 0) = 1) inferInstance (lm_ret (some (.int (Int32.ofInt 0)))))) (lm_w m1 n1 x) = some R → lm_rn (lm_sc xs) (d + 2) lm_m249.2.2.2.2.1 (lm_reg lm_m249.2.2.2.2.2) (27, [(0, .ref 76), (1, .ref 37), (2, .int (Int32.ofNat (lm_do s))), (3, .int (Int32.ofNat P)), (4, .int (Int32.ofNat (lm_pv cn i))), (5, .int (Int32.ofNat i))], []) (lm_w m1 n1 x) = some R := by
      intro R K
      refine lm_e249_27 ?_
      unfold lm_q249_27
      repeat (first
    | ((with_reducible apply lm_sI); exact rfl)
    | ((with_reducible apply lm_sR); exact rfl)
    | ((with_reducible apply lm_sS); exact rfl; exact rfl)
    | ((with_reducible apply lm_sL); exact rfl)
    | ((with_reducible apply lm_sP); exact rfl; exact rfl)
    | ((with_reducible apply lm_sPL); exact rfl; exact rfl)
    | ((with_reducible apply lm_sAA); exact rfl; exact rfl)
    | ((with_reducible apply lm_sA); (first | exact rfl | assumption); omega)
    | ((with_reducible apply lm_sJ); (first | exact rfl | assumption); omega)
    | ((with_reducible apply lm_sB); (first | exact rfl | assumption); omega)
    | ((with_reducible apply lm_wA); (first | exact rfl | assumption); omega)
    | ((with_reducible apply lm_wJ); (first | exact rfl | assumption); omega)
    | ((with_reducible apply lm_wB); (first | exact rfl | assumption); omega)
    | ((with_reducible apply lm_sAl); (first | exact rfl | assumption); omega)
    | ((with_reducible apply lm_iW); decide))
      simp only [Nat.reduceDiv, Nat.reduceMod]
      rw [h.2.1]
      refine lm_geF (by omega) (by omega) (by omega) ?_
      rw [lm_oo, lm_oo]
      repeat (first
    | ((with_reducible apply lm_sI); exact rfl)
    | ((with_reducible apply lm_sR); exact rfl)
    | ((with_reducible apply lm_sS); exact rfl; exact rfl)
    | ((with_reducible apply lm_sL); exact rfl)
    | ((with_reducible apply lm_sP); exact rfl; exact rfl)
    | ((with_reducible apply lm_sPL); exact rfl; exact rfl)
    | ((with_reducible apply lm_sAA); exact rfl; exact rfl)
    | ((with_reducible apply lm_sA); (first | exact rfl | assumption); omega)
    | ((with_reducible apply lm_sJ); (first | exact rfl | assumption); omega)
    | ((with_reducible apply lm_sB); (first | exact rfl | assumption); omega)
    | ((with_reducible apply lm_wA); (first | exact rfl | assumption); omega)
    | ((with_reducible apply lm_wJ); (first | exact rfl | assumption); omega)
    | ((with_reducible apply lm_wB); (first | exact rfl | assumption); omega)
    | ((with_reducible apply lm_sAl); (first | exact rfl | assumption); omega)
    | ((with_reducible apply lm_iW); decide))
      rw [eC, lm_K1, lm_oo]
      exact K
    by_cases c1 : cn i < lm_pv cn i
    · refine Or.inr ⟨_, ⟨rfl, fun q => ?_⟩, pre _ (lm_ltT (by omega) (by omega) c1 (lm_iW (by decide) rfl))⟩
      have := (q i hi).1
      omega
    · by_cases c2 : cn i ≤ lm_do s
      · rcases lm_lpe (sc := lm_sc xs) (d := d + 2) (b := cn i - (lm_pv cn i + 1)) (hs := lm_m249.2.2.2.2.1) (code := lm_reg lm_m249.2.2.2.2.2) (x := x) (fr := fun j => (71, [(0, .ref 76), (1, .ref 37), (2, .int (Int32.ofNat (lm_do s))), (3, .int (Int32.ofNat P)), (5, .int (Int32.ofNat i)), (6, .int (Int32.ofNat (cn i))), (7, .int (Int32.ofNat (lm_pv cn i + 1 + j)))], [])) (I := fun j m' n' => m' = m1 ∧ n' = n1 ∧ ∀ j', j' < j → hb (lm_pv cn i + 1 + j' - 1) < hb (lm_pv cn i + 1 + j')) (E := fun R => R = (.ok (some (.int 0)), lm_w m1 n1 x) ∧ ¬ lm_hr hb cn (lm_do s) i) (fun j hj m2 n2 ⟨em, en, g2⟩ => by
          subst em
          subst en
          have b1 := bH (lm_pv cn i + 1 + j - 1)
          have b2 := bH (lm_pv cn i + 1 + j)
          have pre2 : ∀ R, lm_if .lt (Int32.ofNat (hb (lm_pv cn i + 1 + j - 1))) (Int32.ofNat (hb (lm_pv cn i + 1 + j))) (lm_rn (lm_sc xs) (d + 2) lm_m249.2.2.2.2.1 (lm_reg lm_m249.2.2.2.2.2) (71, [(0, .ref 76), (1, .ref 37), (2, .int (Int32.ofNat (lm_do s))), (3, .int (Int32.ofNat P)), (5, .int (Int32.ofNat i)), (6, .int (Int32.ofNat (cn i))), (7, .int (Int32.ofNat (lm_pv cn i + 1 + j + 1)))], [])) (lm_when ((Int32.ofInt 0) = 0 ∨ (Int32.ofInt 0) = 1) inferInstance (lm_ret (some (.int (Int32.ofInt 0))))) (lm_w m2 n2 x) = some R → lm_rn (lm_sc xs) (d + 2) lm_m249.2.2.2.2.1 (lm_reg lm_m249.2.2.2.2.2) (71, [(0, .ref 76), (1, .ref 37), (2, .int (Int32.ofNat (lm_do s))), (3, .int (Int32.ofNat P)), (5, .int (Int32.ofNat i)), (6, .int (Int32.ofNat (cn i))), (7, .int (Int32.ofNat (lm_pv cn i + 1 + j)))], []) (lm_w m2 n2 x) = some R := by
            intro R K
            refine lm_e249_71 ?_
            unfold lm_q249_71
            refine lm_geF (by omega) (by omega) (by omega) ?_
            rw [lm_oo, lm_K1, lm_osu (by omega), show P + (lm_pv cn i + 1 + j) - 1 = P + (lm_pv cn i + 1 + j - 1) by omega]
            repeat (first
    | ((with_reducible apply lm_sI); exact rfl)
    | ((with_reducible apply lm_sR); exact rfl)
    | ((with_reducible apply lm_sS); exact rfl; exact rfl)
    | ((with_reducible apply lm_sL); exact rfl)
    | ((with_reducible apply lm_sP); exact rfl; exact rfl)
    | ((with_reducible apply lm_sPL); exact rfl; exact rfl)
    | ((with_reducible apply lm_sAA); exact rfl; exact rfl)
    | ((with_reducible apply lm_sA); (first | exact rfl | assumption); omega)
    | ((with_reducible apply lm_sJ); (first | exact rfl | assumption); omega)
    | ((with_reducible apply lm_sB); (first | exact rfl | assumption); omega)
    | ((with_reducible apply lm_wA); (first | exact rfl | assumption); omega)
    | ((with_reducible apply lm_wJ); (first | exact rfl | assumption); omega)
    | ((with_reducible apply lm_wB); (first | exact rfl | assumption); omega)
    | ((with_reducible apply lm_sAl); (first | exact rfl | assumption); omega)
    | ((with_reducible apply lm_iW); decide))
            rw [eH, eH, lm_oo]
            exact K
          by_cases c3 : hb (lm_pv cn i + 1 + j - 1) < hb (lm_pv cn i + 1 + j)
          · refine Or.inl ⟨m2, n2, ⟨rfl, rfl, fun j' hj' => ?_⟩, fun R K => pre2 R (lm_ltT (by omega) (by omega) c3 K)⟩
            by_cases c0 : j' = j
            · subst c0; exact c3
            · exact g2 j' (by omega)
          · refine Or.inr ⟨_, ⟨rfl, fun q => c3 (q.2.2 (lm_pv cn i + 1 + j) (by omega) (by omega))⟩, pre2 _ (lm_ltF (by omega) (by omega) c3 (lm_iW (by decide) rfl))⟩) (cn i - (lm_pv cn i + 1)) 0 (by omega) m1 n1 ⟨rfl, rfl, fun j' hj' => absurd hj' (by omega)⟩ with ⟨m2, n2, ⟨em, en, g2⟩, k2⟩ | ⟨R, ⟨eR, q⟩, k2⟩
        · subst em
          subst en
          refine Or.inl ⟨m2, n2, ⟨rfl, rfl, fun i' hi' => ?_⟩, fun R K => pre R (lm_ltF (by omega) (by omega) c1 (lm_leT (by omega) (by omega) c2 (k2 R (lm_e249_71 ?_))))⟩
          · by_cases c0 : i' = i
            · subst c0
              refine ⟨by omega, c2, fun j j1 j2 => ?_⟩
              have := g2 (j - (lm_pv cn i' + 1)) (by omega)
              rw [show lm_pv cn i' + 1 + (j - (lm_pv cn i' + 1)) = j by omega] at this
              exact this
            · exact g i' (by omega)
          · unfold lm_q249_71
            refine lm_geT (by omega) (by omega) (by omega) ?_
            rw [lm_K1, lm_oo]
            exact K
        · rw [eR] at k2
          exact Or.inr ⟨_, ⟨rfl, fun q' => q (q' i hi)⟩, pre _ (lm_ltF (by omega) (by omega) c1 (lm_leT (by omega) (by omega) c2 k2))⟩
      · refine Or.inr ⟨_, ⟨rfl, fun q => c2 (q i hi).2.1⟩, pre _ (lm_ltF (by omega) (by omega) c1 (lm_leF (by omega) (by omega) c2 (lm_iW (by decide) rfl)))⟩) (lm_dk s) 0 (by omega) m n ⟨rfl, rfl, fun i' hi' => absurd hi' (by omega)⟩ with ⟨m1, n1, ⟨em, en, g⟩, k1⟩ | ⟨R, ⟨eR, q⟩, k1⟩
  · subst em
    subst en
    have hpv := lm_pv_le g
    rcases lm_lpe (sc := lm_sc xs) (d := d + 2) (b := lm_do s - lm_pv cn (lm_dk s)) (hs := lm_m249.2.2.2.2.1) (code := lm_reg lm_m249.2.2.2.2.2) (x := x) (fr := fun j => (125, [(1, .ref 37), (2, .int (Int32.ofNat (lm_do s))), (3, .int (Int32.ofNat P)), (5, .int (Int32.ofNat (lm_pv cn (lm_dk s) + j)))], [])) (I := fun j m' n' => m' = m1 ∧ n' = n1 ∧ ∀ j', j' < j → hb (lm_pv cn (lm_dk s) + j') = 0) (E := fun R => R = (.ok (some (.int 0)), lm_w m1 n1 x) ∧ ¬ ∀ j, lm_pv cn (lm_dk s) ≤ j → j < lm_do s → hb j = 0) (fun j hj m2 n2 ⟨em, en, g2⟩ => by
      subst em
      subst en
      have pre2 : ∀ R, lm_if .eq (lm_b8 (m2 37 (P + (lm_pv cn (lm_dk s) + j)))) 0 (lm_rn (lm_sc xs) (d + 2) lm_m249.2.2.2.2.1 (lm_reg lm_m249.2.2.2.2.2) (125, [(1, .ref 37), (2, .int (Int32.ofNat (lm_do s))), (3, .int (Int32.ofNat P)), (5, .int (Int32.ofNat (lm_pv cn (lm_dk s) + j + 1)))], [])) (lm_when ((Int32.ofInt 0) = 0 ∨ (Int32.ofInt 0) = 1) inferInstance (lm_ret (some (.int (Int32.ofInt 0))))) (lm_w m2 n2 x) = some R → lm_rn (lm_sc xs) (d + 2) lm_m249.2.2.2.2.1 (lm_reg lm_m249.2.2.2.2.2) (125, [(1, .ref 37), (2, .int (Int32.ofNat (lm_do s))), (3, .int (Int32.ofNat P)), (5, .int (Int32.ofNat (lm_pv cn (lm_dk s) + j)))], []) (lm_w m2 n2 x) = some R := by
        intro R K
        refine lm_e249_125 ?_
        unfold lm_q249_125
        refine lm_geF (by omega) (by omega) (by omega) ?_
        rw [lm_oo]
        repeat (first
    | ((with_reducible apply lm_sI); exact rfl)
    | ((with_reducible apply lm_sR); exact rfl)
    | ((with_reducible apply lm_sS); exact rfl; exact rfl)
    | ((with_reducible apply lm_sL); exact rfl)
    | ((with_reducible apply lm_sP); exact rfl; exact rfl)
    | ((with_reducible apply lm_sPL); exact rfl; exact rfl)
    | ((with_reducible apply lm_sAA); exact rfl; exact rfl)
    | ((with_reducible apply lm_sA); (first | exact rfl | assumption); omega)
    | ((with_reducible apply lm_sJ); (first | exact rfl | assumption); omega)
    | ((with_reducible apply lm_sB); (first | exact rfl | assumption); omega)
    | ((with_reducible apply lm_wA); (first | exact rfl | assumption); omega)
    | ((with_reducible apply lm_wJ); (first | exact rfl | assumption); omega)
    | ((with_reducible apply lm_wB); (first | exact rfl | assumption); omega)
    | ((with_reducible apply lm_sAl); (first | exact rfl | assumption); omega)
    | ((with_reducible apply lm_iW); decide))
        rw [lm_K1, lm_oo]
        exact K
      by_cases c3 : hb (lm_pv cn (lm_dk s) + j) = 0
      · refine Or.inl ⟨m2, n2, ⟨rfl, rfl, fun j' hj' => ?_⟩, fun R K => pre2 R (lm_iT ((zH _).mp c3) K)⟩
        by_cases c0 : j' = j
        · subst c0; exact c3
        · exact g2 j' (by omega)
      · exact Or.inr ⟨_, ⟨rfl, fun q => c3 (q _ (by omega) (by omega))⟩, pre2 _ (lm_iF (fun q => c3 ((zH _).mpr q)) (lm_iW (by decide) rfl))⟩) (lm_do s - lm_pv cn (lm_dk s)) 0 (by omega) m1 n1 ⟨rfl, rfl, fun j' hj' => absurd hj' (by omega)⟩ with ⟨m2, n2, ⟨em, en, g2⟩, k2⟩ | ⟨R, ⟨eR, q⟩, k2⟩
    · subst em
      subst en
      refine Or.inl ⟨head _ (k1 _ (lm_e249_27 ?_)), g, fun j j1 j2 => ?_⟩
      · unfold lm_q249_27
        repeat (first
    | ((with_reducible apply lm_sI); exact rfl)
    | ((with_reducible apply lm_sR); exact rfl)
    | ((with_reducible apply lm_sS); exact rfl; exact rfl)
    | ((with_reducible apply lm_sL); exact rfl)
    | ((with_reducible apply lm_sP); exact rfl; exact rfl)
    | ((with_reducible apply lm_sPL); exact rfl; exact rfl)
    | ((with_reducible apply lm_sAA); exact rfl; exact rfl)
    | ((with_reducible apply lm_sA); (first | exact rfl | assumption); omega)
    | ((with_reducible apply lm_sJ); (first | exact rfl | assumption); omega)
    | ((with_reducible apply lm_sB); (first | exact rfl | assumption); omega)
    | ((with_reducible apply lm_wA); (first | exact rfl | assumption); omega)
    | ((with_reducible apply lm_wJ); (first | exact rfl | assumption); omega)
    | ((with_reducible apply lm_wB); (first | exact rfl | assumption); omega)
    | ((with_reducible apply lm_sAl); (first | exact rfl | assumption); omega)
    | ((with_reducible apply lm_iW); decide))
        simp only [Nat.reduceDiv, Nat.reduceMod]
        rw [h.2.1]
        refine lm_geT (by omega) (by omega) (by omega) ?_
        refine k2 _ (lm_e249_125 ?_)
        unfold lm_q249_125
        exact lm_geT (by omega) (by omega) (by omega) (lm_iW (by decide) rfl)
      · have := g2 (j - lm_pv cn (lm_dk s)) (by omega)
        rw [show lm_pv cn (lm_dk s) + (j - lm_pv cn (lm_dk s)) = j by omega] at this
        exact this
    · rw [eR] at k2
      refine Or.inr ⟨head _ (k1 _ (lm_e249_27 ?_)), fun q' => q q'.2⟩
      unfold lm_q249_27
      repeat (first
    | ((with_reducible apply lm_sI); exact rfl)
    | ((with_reducible apply lm_sR); exact rfl)
    | ((with_reducible apply lm_sS); exact rfl; exact rfl)
    | ((with_reducible apply lm_sL); exact rfl)
    | ((with_reducible apply lm_sP); exact rfl; exact rfl)
    | ((with_reducible apply lm_sPL); exact rfl; exact rfl)
    | ((with_reducible apply lm_sAA); exact rfl; exact rfl)
    | ((with_reducible apply lm_sA); (first | exact rfl | assumption); omega)
    | ((with_reducible apply lm_sJ); (first | exact rfl | assumption); omega)
    | ((with_reducible apply lm_sB); (first | exact rfl | assumption); omega)
    | ((with_reducible apply lm_wA); (first | exact rfl | assumption); omega)
    | ((with_reducible apply lm_wJ); (first | exact rfl | assumption); omega)
    | ((with_reducible apply lm_wB); (first | exact rfl | assumption); omega)
    | ((with_reducible apply lm_sAl); (first | exact rfl | assumption); omega)
    | ((with_reducible apply lm_iW); decide))
      simp only [Nat.reduceDiv, Nat.reduceMod]
      rw [h.2.1]
      refine lm_geT (by omega) (by omega) (by omega) ?_
      exact k2
  · rw [eR] at k1
    exact Or.inr ⟨head _ k1, fun q' => q q'.1⟩
end LMVA
