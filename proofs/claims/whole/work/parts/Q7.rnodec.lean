/-! ===== slhNode of the reference; one call of both ===== -/
section LMTH
variable {sc : lm_H} {xs : List Int32} {C : lm_CX} {d s l z i : Nat} {m m' : lm_MI} {n n' : lm_ML} {x : lm_H × Nat × Nat} {v x2 x3 x4 x5 : Int32}
theorem lm_nOk_L (hs : s ≤ 11) (h : lm_nOk s x2 x3 x4 x5) : lm_s3 x2 := by
  have hpar := lm_spar s hs
  have h2 := h.1
  rw [lm_K1, lm_osu (by omega)] at h2
  rcases lm_range x2 (n := lm_sd s - 1) (by omega) with ⟨k, hk, e⟩ | e
  · subst e
    exact lm_s3n k (by omega)
  · exact absurd h2 e
theorem lm_l40 (hs : s ≤ 11) : ∃ m1, lm_RF m1 s ∧ (∀ j, j ≠ 4 → j < 67 → m1 203 j = m 203 j) ∧ (∀ q, q ≠ 203 → q ≠ 333 → m1 q = m q) ∧ (lm_nOk s x2 x3 x4 x5 → ∀ R, lm_rn sc (d + 1) lm_m40.2.2.2.2.1 (lm_reg lm_m40.2.2.2.2.2) (79, [(0, .ref 203), (2, .int x2), (3, .int x3), (4, .int x4), (5, .int x5)], [.int (Int32.ofInt 1), .ref 203]) (lm_w m1 n x) = some R → lm_cal sc (d + 2) 40 [.ref 203, .int (Int32.ofNat s), .int x2, .int x3, .int x4, .int x5] (lm_w m n x) = some R) ∧ (¬ lm_nOk s x2 x3 x4 x5 → lm_cal sc (d + 2) 40 [.ref 203, .int (Int32.ofNat s), .int x2, .int x3, .int x4, .int x5] (lm_w m n x) = some (.ok (some (.int 0)), lm_w (lm_u m1 203 4 1) n x)) := by
  obtain ⟨m1, c1, F1, z1, f1, r1⟩ := lm_u107x (sc := sc) (d := d) (m := lm_u m 203 4 0) (n := n) (x := x) hs
  refine ⟨m1, F1, fun j h1 h2 => by rw [f1 j h2, lm_u_ne (fun g => h1 g.2)], fun q h1 h2 => by rw [r1 q h1 h2, lm_u_row h1], fun ok R KK => ?_, fun nok => ?_⟩
  · obtain ⟨c2, c3, c4, c5⟩ := ok
    refine lm_cal_of (Y := lm_m40) rfl rfl (lm_e40_0 ?_)
    unfold lm_q40_0
    refine lm_cI (lm_t52n (i := s) (d := d) (n := 11) hs (by omega)) ?_
    repeat (first
    | ((with_reducible apply lm_sI); exact rfl)
    | ((with_reducible apply lm_sR); exact rfl)
    | ((with_reducible apply lm_sS); exact rfl; exact rfl)
    | ((with_reducible apply lm_sL); exact rfl)
    | ((with_reducible apply lm_sP); exact rfl; exact rfl)
    | ((with_reducible apply lm_sPL); exact rfl; exact rfl)
    | ((with_reducible apply lm_sAA); exact rfl; first | exact rfl | exact lm_roO (by omega) | exact lm_roM (by omega))
    | ((with_reducible apply lm_sI); exact lm_fpL (by omega))
    | ((with_reducible apply lm_sR); exact lm_fpB (by omega))
    | ((with_reducible apply lm_sP); exact lm_fpL (by omega); exact rfl)
    | ((with_reducible apply lm_sS); exact lm_ocO (by omega); exact rfl)
    | ((with_reducible apply lm_sA); exact rfl; omega)
    | ((with_reducible apply lm_sJ); exact rfl; omega)
    | ((with_reducible apply lm_sB); (first | exact rfl | exact lm_arB (by omega) | exact lm_arM (by omega)); omega)
    | ((with_reducible apply lm_wA); exact rfl; omega)
    | ((with_reducible apply lm_wJ); exact rfl; omega)
    | ((with_reducible apply lm_wB); (first | exact rfl | exact lm_arB (by omega) | exact lm_arM (by omega)); omega)
    | ((with_reducible apply lm_sAl); (first | exact rfl | exact lm_arB (by omega) | exact lm_arM (by omega)); omega)
    | ((with_reducible apply lm_iW); decide))
    refine lm_cI (lm_u49 (d := d) true) ?_
    refine lm_iT (show ¬ (1 : Int32) = 0 by decide) ?_
    repeat (first
    | ((with_reducible apply lm_sI); exact rfl)
    | ((with_reducible apply lm_sR); exact rfl)
    | ((with_reducible apply lm_sS); exact rfl; exact rfl)
    | ((with_reducible apply lm_sL); exact rfl)
    | ((with_reducible apply lm_sP); exact rfl; exact rfl)
    | ((with_reducible apply lm_sPL); exact rfl; exact rfl)
    | ((with_reducible apply lm_sAA); exact rfl; first | exact rfl | exact lm_roO (by omega) | exact lm_roM (by omega))
    | ((with_reducible apply lm_sI); exact lm_fpL (by omega))
    | ((with_reducible apply lm_sR); exact lm_fpB (by omega))
    | ((with_reducible apply lm_sP); exact lm_fpL (by omega); exact rfl)
    | ((with_reducible apply lm_sS); exact lm_ocO (by omega); exact rfl)
    | ((with_reducible apply lm_sA); exact rfl; omega)
    | ((with_reducible apply lm_sJ); exact rfl; omega)
    | ((with_reducible apply lm_sB); (first | exact rfl | exact lm_arB (by omega) | exact lm_arM (by omega)); omega)
    | ((with_reducible apply lm_wA); exact rfl; omega)
    | ((with_reducible apply lm_wJ); exact rfl; omega)
    | ((with_reducible apply lm_wB); (first | exact rfl | exact lm_arB (by omega) | exact lm_arM (by omega)); omega)
    | ((with_reducible apply lm_sAl); (first | exact rfl | exact lm_arB (by omega) | exact lm_arM (by omega)); omega)
    | ((with_reducible apply lm_iW); decide))
    refine lm_cV c1 ?_
    repeat (first
    | ((with_reducible apply lm_sI); exact rfl)
    | ((with_reducible apply lm_sR); exact rfl)
    | ((with_reducible apply lm_sS); exact rfl; exact rfl)
    | ((with_reducible apply lm_sL); exact rfl)
    | ((with_reducible apply lm_sP); exact rfl; exact rfl)
    | ((with_reducible apply lm_sPL); exact rfl; exact rfl)
    | ((with_reducible apply lm_sAA); exact rfl; first | exact rfl | exact lm_roO (by omega) | exact lm_roM (by omega))
    | ((with_reducible apply lm_sI); exact lm_fpL (by omega))
    | ((with_reducible apply lm_sR); exact lm_fpB (by omega))
    | ((with_reducible apply lm_sP); exact lm_fpL (by omega); exact rfl)
    | ((with_reducible apply lm_sS); exact lm_ocO (by omega); exact rfl)
    | ((with_reducible apply lm_sA); exact rfl; omega)
    | ((with_reducible apply lm_sJ); exact rfl; omega)
    | ((with_reducible apply lm_sB); (first | exact rfl | exact lm_arB (by omega) | exact lm_arM (by omega)); omega)
    | ((with_reducible apply lm_wA); exact rfl; omega)
    | ((with_reducible apply lm_wJ); exact rfl; omega)
    | ((with_reducible apply lm_wB); (first | exact rfl | exact lm_arB (by omega) | exact lm_arM (by omega)); omega)
    | ((with_reducible apply lm_sAl); (first | exact rfl | exact lm_arB (by omega) | exact lm_arM (by omega)); omega)
    | ((with_reducible apply lm_iW); decide))
    simp only [Nat.reduceDiv, Nat.reduceMod]
    rw [F1.2.2.1]
    refine lm_cI (lm_t52t (d := d) c2) ?_
    refine lm_iF (show ¬ (1 : Int32) = 0 by decide) ?_
    refine lm_iF (show ¬ x3 < 0 from Int32.not_lt.mpr c3) ?_
    repeat (first
    | ((with_reducible apply lm_sI); exact rfl)
    | ((with_reducible apply lm_sR); exact rfl)
    | ((with_reducible apply lm_sS); exact rfl; exact rfl)
    | ((with_reducible apply lm_sL); exact rfl)
    | ((with_reducible apply lm_sP); exact rfl; exact rfl)
    | ((with_reducible apply lm_sPL); exact rfl; exact rfl)
    | ((with_reducible apply lm_sAA); exact rfl; first | exact rfl | exact lm_roO (by omega) | exact lm_roM (by omega))
    | ((with_reducible apply lm_sI); exact lm_fpL (by omega))
    | ((with_reducible apply lm_sR); exact lm_fpB (by omega))
    | ((with_reducible apply lm_sP); exact lm_fpL (by omega); exact rfl)
    | ((with_reducible apply lm_sS); exact lm_ocO (by omega); exact rfl)
    | ((with_reducible apply lm_sA); exact rfl; omega)
    | ((with_reducible apply lm_sJ); exact rfl; omega)
    | ((with_reducible apply lm_sB); (first | exact rfl | exact lm_arB (by omega) | exact lm_arM (by omega)); omega)
    | ((with_reducible apply lm_wA); exact rfl; omega)
    | ((with_reducible apply lm_wJ); exact rfl; omega)
    | ((with_reducible apply lm_wB); (first | exact rfl | exact lm_arB (by omega) | exact lm_arM (by omega)); omega)
    | ((with_reducible apply lm_sAl); (first | exact rfl | exact lm_arB (by omega) | exact lm_arM (by omega)); omega)
    | ((with_reducible apply lm_iW); decide))
    simp only [Nat.reduceDiv, Nat.reduceMod]
    rw [F1.2.2.2.1]
    refine lm_cI (lm_t52t (d := d) c4) ?_
    refine lm_iF (show ¬ (1 : Int32) = 0 by decide) ?_
    repeat (first
    | ((with_reducible apply lm_sI); exact rfl)
    | ((with_reducible apply lm_sR); exact rfl)
    | ((with_reducible apply lm_sS); exact rfl; exact rfl)
    | ((with_reducible apply lm_sL); exact rfl)
    | ((with_reducible apply lm_sP); exact rfl; exact rfl)
    | ((with_reducible apply lm_sPL); exact rfl; exact rfl)
    | ((with_reducible apply lm_sAA); exact rfl; first | exact rfl | exact lm_roO (by omega) | exact lm_roM (by omega))
    | ((with_reducible apply lm_sI); exact lm_fpL (by omega))
    | ((with_reducible apply lm_sR); exact lm_fpB (by omega))
    | ((with_reducible apply lm_sP); exact lm_fpL (by omega); exact rfl)
    | ((with_reducible apply lm_sS); exact lm_ocO (by omega); exact rfl)
    | ((with_reducible apply lm_sA); exact rfl; omega)
    | ((with_reducible apply lm_sJ); exact rfl; omega)
    | ((with_reducible apply lm_sB); (first | exact rfl | exact lm_arB (by omega) | exact lm_arM (by omega)); omega)
    | ((with_reducible apply lm_wA); exact rfl; omega)
    | ((with_reducible apply lm_wJ); exact rfl; omega)
    | ((with_reducible apply lm_wB); (first | exact rfl | exact lm_arB (by omega) | exact lm_arM (by omega)); omega)
    | ((with_reducible apply lm_sAl); (first | exact rfl | exact lm_arB (by omega) | exact lm_arM (by omega)); omega)
    | ((with_reducible apply lm_iW); decide))
    simp only [Nat.reduceDiv, Nat.reduceMod]
    rw [F1.2.2.2.1]
    refine lm_cI (lm_t52t (d := d) c5) ?_
    refine lm_iF (show ¬ (1 : Int32) = 0 by decide) ?_
    exact KK
  · have bad : lm_rn sc (d + 1) lm_m40.2.2.2.2.1 (lm_reg lm_m40.2.2.2.2.2) (78, [(0, .ref 203), (2, .int x2), (3, .int x3), (4, .int x4), (5, .int x5)], [.ref 203]) (lm_w m1 n x) = some (.ok (some (.int 0)), lm_w (lm_u m1 203 4 1) n x) := by
      refine lm_e40_78 ?_
      unfold lm_q40_78
      refine lm_e40_79 ?_
      unfold lm_q40_79
      repeat (first
    | ((with_reducible apply lm_sI); exact rfl)
    | ((with_reducible apply lm_sR); exact rfl)
    | ((with_reducible apply lm_sS); exact rfl; exact rfl)
    | ((with_reducible apply lm_sL); exact rfl)
    | ((with_reducible apply lm_sP); exact rfl; exact rfl)
    | ((with_reducible apply lm_sPL); exact rfl; exact rfl)
    | ((with_reducible apply lm_sAA); exact rfl; first | exact rfl | exact lm_roO (by omega) | exact lm_roM (by omega))
    | ((with_reducible apply lm_sI); exact lm_fpL (by omega))
    | ((with_reducible apply lm_sR); exact lm_fpB (by omega))
    | ((with_reducible apply lm_sP); exact lm_fpL (by omega); exact rfl)
    | ((with_reducible apply lm_sS); exact lm_ocO (by omega); exact rfl)
    | ((with_reducible apply lm_sA); exact rfl; omega)
    | ((with_reducible apply lm_sJ); exact rfl; omega)
    | ((with_reducible apply lm_sB); (first | exact rfl | exact lm_arB (by omega) | exact lm_arM (by omega)); omega)
    | ((with_reducible apply lm_wA); exact rfl; omega)
    | ((with_reducible apply lm_wJ); exact rfl; omega)
    | ((with_reducible apply lm_wB); (first | exact rfl | exact lm_arB (by omega) | exact lm_arM (by omega)); omega)
    | ((with_reducible apply lm_sAl); (first | exact rfl | exact lm_arB (by omega) | exact lm_arM (by omega)); omega)
    | ((with_reducible apply lm_iW); decide))
      refine lm_cI (lm_u49 (d := d) false) ?_
      refine lm_iT (show (0 : Int32) = 0 by decide) ?_
      exact rfl
    refine lm_cal_of (Y := lm_m40) rfl rfl (lm_e40_0 ?_)
    unfold lm_q40_0
    refine lm_cI (lm_t52n (i := s) (d := d) (n := 11) hs (by omega)) ?_
    repeat (first
    | ((with_reducible apply lm_sI); exact rfl)
    | ((with_reducible apply lm_sR); exact rfl)
    | ((with_reducible apply lm_sS); exact rfl; exact rfl)
    | ((with_reducible apply lm_sL); exact rfl)
    | ((with_reducible apply lm_sP); exact rfl; exact rfl)
    | ((with_reducible apply lm_sPL); exact rfl; exact rfl)
    | ((with_reducible apply lm_sAA); exact rfl; first | exact rfl | exact lm_roO (by omega) | exact lm_roM (by omega))
    | ((with_reducible apply lm_sI); exact lm_fpL (by omega))
    | ((with_reducible apply lm_sR); exact lm_fpB (by omega))
    | ((with_reducible apply lm_sP); exact lm_fpL (by omega); exact rfl)
    | ((with_reducible apply lm_sS); exact lm_ocO (by omega); exact rfl)
    | ((with_reducible apply lm_sA); exact rfl; omega)
    | ((with_reducible apply lm_sJ); exact rfl; omega)
    | ((with_reducible apply lm_sB); (first | exact rfl | exact lm_arB (by omega) | exact lm_arM (by omega)); omega)
    | ((with_reducible apply lm_wA); exact rfl; omega)
    | ((with_reducible apply lm_wJ); exact rfl; omega)
    | ((with_reducible apply lm_wB); (first | exact rfl | exact lm_arB (by omega) | exact lm_arM (by omega)); omega)
    | ((with_reducible apply lm_sAl); (first | exact rfl | exact lm_arB (by omega) | exact lm_arM (by omega)); omega)
    | ((with_reducible apply lm_iW); decide))
    refine lm_cI (lm_u49 (d := d) true) ?_
    refine lm_iT (show ¬ (1 : Int32) = 0 by decide) ?_
    repeat (first
    | ((with_reducible apply lm_sI); exact rfl)
    | ((with_reducible apply lm_sR); exact rfl)
    | ((with_reducible apply lm_sS); exact rfl; exact rfl)
    | ((with_reducible apply lm_sL); exact rfl)
    | ((with_reducible apply lm_sP); exact rfl; exact rfl)
    | ((with_reducible apply lm_sPL); exact rfl; exact rfl)
    | ((with_reducible apply lm_sAA); exact rfl; first | exact rfl | exact lm_roO (by omega) | exact lm_roM (by omega))
    | ((with_reducible apply lm_sI); exact lm_fpL (by omega))
    | ((with_reducible apply lm_sR); exact lm_fpB (by omega))
    | ((with_reducible apply lm_sP); exact lm_fpL (by omega); exact rfl)
    | ((with_reducible apply lm_sS); exact lm_ocO (by omega); exact rfl)
    | ((with_reducible apply lm_sA); exact rfl; omega)
    | ((with_reducible apply lm_sJ); exact rfl; omega)
    | ((with_reducible apply lm_sB); (first | exact rfl | exact lm_arB (by omega) | exact lm_arM (by omega)); omega)
    | ((with_reducible apply lm_wA); exact rfl; omega)
    | ((with_reducible apply lm_wJ); exact rfl; omega)
    | ((with_reducible apply lm_wB); (first | exact rfl | exact lm_arB (by omega) | exact lm_arM (by omega)); omega)
    | ((with_reducible apply lm_sAl); (first | exact rfl | exact lm_arB (by omega) | exact lm_arM (by omega)); omega)
    | ((with_reducible apply lm_iW); decide))
    refine lm_cV c1 ?_
    repeat (first
    | ((with_reducible apply lm_sI); exact rfl)
    | ((with_reducible apply lm_sR); exact rfl)
    | ((with_reducible apply lm_sS); exact rfl; exact rfl)
    | ((with_reducible apply lm_sL); exact rfl)
    | ((with_reducible apply lm_sP); exact rfl; exact rfl)
    | ((with_reducible apply lm_sPL); exact rfl; exact rfl)
    | ((with_reducible apply lm_sAA); exact rfl; first | exact rfl | exact lm_roO (by omega) | exact lm_roM (by omega))
    | ((with_reducible apply lm_sI); exact lm_fpL (by omega))
    | ((with_reducible apply lm_sR); exact lm_fpB (by omega))
    | ((with_reducible apply lm_sP); exact lm_fpL (by omega); exact rfl)
    | ((with_reducible apply lm_sS); exact lm_ocO (by omega); exact rfl)
    | ((with_reducible apply lm_sA); exact rfl; omega)
    | ((with_reducible apply lm_sJ); exact rfl; omega)
    | ((with_reducible apply lm_sB); (first | exact rfl | exact lm_arB (by omega) | exact lm_arM (by omega)); omega)
    | ((with_reducible apply lm_wA); exact rfl; omega)
    | ((with_reducible apply lm_wJ); exact rfl; omega)
    | ((with_reducible apply lm_wB); (first | exact rfl | exact lm_arB (by omega) | exact lm_arM (by omega)); omega)
    | ((with_reducible apply lm_sAl); (first | exact rfl | exact lm_arB (by omega) | exact lm_arM (by omega)); omega)
    | ((with_reducible apply lm_iW); decide))
    simp only [Nat.reduceDiv, Nat.reduceMod]
    rw [F1.2.2.1]
    by_cases c2 : (0 : Int32) ≤ x2 ∧ x2 ≤ Int32.ofNat (lm_sd s) - Int32.ofInt 1
    · refine lm_cI (lm_t52t (d := d) c2) ?_
      refine lm_iF (show ¬ (1 : Int32) = 0 by decide) ?_
      by_cases c3 : (0 : Int32) ≤ x3
      · refine lm_iF (show ¬ x3 < 0 from Int32.not_lt.mpr c3) ?_
        repeat (first
    | ((with_reducible apply lm_sI); exact rfl)
    | ((with_reducible apply lm_sR); exact rfl)
    | ((with_reducible apply lm_sS); exact rfl; exact rfl)
    | ((with_reducible apply lm_sL); exact rfl)
    | ((with_reducible apply lm_sP); exact rfl; exact rfl)
    | ((with_reducible apply lm_sPL); exact rfl; exact rfl)
    | ((with_reducible apply lm_sAA); exact rfl; first | exact rfl | exact lm_roO (by omega) | exact lm_roM (by omega))
    | ((with_reducible apply lm_sI); exact lm_fpL (by omega))
    | ((with_reducible apply lm_sR); exact lm_fpB (by omega))
    | ((with_reducible apply lm_sP); exact lm_fpL (by omega); exact rfl)
    | ((with_reducible apply lm_sS); exact lm_ocO (by omega); exact rfl)
    | ((with_reducible apply lm_sA); exact rfl; omega)
    | ((with_reducible apply lm_sJ); exact rfl; omega)
    | ((with_reducible apply lm_sB); (first | exact rfl | exact lm_arB (by omega) | exact lm_arM (by omega)); omega)
    | ((with_reducible apply lm_wA); exact rfl; omega)
    | ((with_reducible apply lm_wJ); exact rfl; omega)
    | ((with_reducible apply lm_wB); (first | exact rfl | exact lm_arB (by omega) | exact lm_arM (by omega)); omega)
    | ((with_reducible apply lm_sAl); (first | exact rfl | exact lm_arB (by omega) | exact lm_arM (by omega)); omega)
    | ((with_reducible apply lm_iW); decide))
        simp only [Nat.reduceDiv, Nat.reduceMod]
        rw [F1.2.2.2.1]
        by_cases c4 : (0 : Int32) ≤ x4 ∧ x4 ≤ Int32.ofNat (lm_sh s)
        · refine lm_cI (lm_t52t (d := d) c4) ?_
          refine lm_iF (show ¬ (1 : Int32) = 0 by decide) ?_
          repeat (first
    | ((with_reducible apply lm_sI); exact rfl)
    | ((with_reducible apply lm_sR); exact rfl)
    | ((with_reducible apply lm_sS); exact rfl; exact rfl)
    | ((with_reducible apply lm_sL); exact rfl)
    | ((with_reducible apply lm_sP); exact rfl; exact rfl)
    | ((with_reducible apply lm_sPL); exact rfl; exact rfl)
    | ((with_reducible apply lm_sAA); exact rfl; first | exact rfl | exact lm_roO (by omega) | exact lm_roM (by omega))
    | ((with_reducible apply lm_sI); exact lm_fpL (by omega))
    | ((with_reducible apply lm_sR); exact lm_fpB (by omega))
    | ((with_reducible apply lm_sP); exact lm_fpL (by omega); exact rfl)
    | ((with_reducible apply lm_sS); exact lm_ocO (by omega); exact rfl)
    | ((with_reducible apply lm_sA); exact rfl; omega)
    | ((with_reducible apply lm_sJ); exact rfl; omega)
    | ((with_reducible apply lm_sB); (first | exact rfl | exact lm_arB (by omega) | exact lm_arM (by omega)); omega)
    | ((with_reducible apply lm_wA); exact rfl; omega)
    | ((with_reducible apply lm_wJ); exact rfl; omega)
    | ((with_reducible apply lm_wB); (first | exact rfl | exact lm_arB (by omega) | exact lm_arM (by omega)); omega)
    | ((with_reducible apply lm_sAl); (first | exact rfl | exact lm_arB (by omega) | exact lm_arM (by omega)); omega)
    | ((with_reducible apply lm_iW); decide))
          simp only [Nat.reduceDiv, Nat.reduceMod]
          rw [F1.2.2.2.1]
          refine lm_cI (lm_t52g (d := d) (b := lm_nI5 s x4) (fun g => nok ⟨c2, c3, c4, g⟩)) ?_
          exact lm_iT (show (0 : Int32) = 0 by decide) bad
        · refine lm_cI (lm_t52g (d := d) c4) ?_
          exact lm_iT (show (0 : Int32) = 0 by decide) bad
      · exact lm_iT (show x3 < 0 from Int32.not_le.mp c3) bad
    · refine lm_cI (lm_t52g (d := d) c2) ?_
      exact lm_iT (show (0 : Int32) = 0 by decide) bad
theorem lm_u40d (hs : s ≤ 11) (hl : m 214 2 = Int32.ofNat l) (hl2 : l ≤ 65536) : ∃ m1, (∀ q, q ≠ 203 → q ≠ 333 → m1 q = m q) ∧ m1 203 3 = m 203 3 ∧ (lm_nOk s x2 x3 x4 x5 → l ≠ 4 * lm_sn s → lm_cal sc (d + 2) 40 [.ref 203, .int (Int32.ofNat s), .int x2, .int x3, .int x4, .int x5] (lm_w m n x) = some (.ok (some (.int 0)), lm_w (lm_u m1 203 4 2) n x)) ∧ (¬ lm_nOk s x2 x3 x4 x5 → lm_cal sc (d + 2) 40 [.ref 203, .int (Int32.ofNat s), .int x2, .int x3, .int x4, .int x5] (lm_w m n x) = some (.ok (some (.int 0)), lm_w (lm_u m1 203 4 1) n x)) := by
  obtain ⟨m1, F1, f1, r1, K1, K2⟩ := lm_l40 (sc := sc) (d := d) (n := n) (x := x) (x2 := x2) (x3 := x3) (x4 := x4) (x5 := x5) (m := m) hs
  have hb := lm_sn_b (s := s)
  refine ⟨m1, r1, f1 3 (by decide) (by decide), fun ok hne => K1 ok _ ?_, K2⟩
  refine lm_e40_79 ?_
  unfold lm_q40_79
  repeat (first
    | ((with_reducible apply lm_sI); exact rfl)
    | ((with_reducible apply lm_sR); exact rfl)
    | ((with_reducible apply lm_sS); exact rfl; exact rfl)
    | ((with_reducible apply lm_sL); exact rfl)
    | ((with_reducible apply lm_sP); exact rfl; exact rfl)
    | ((with_reducible apply lm_sPL); exact rfl; exact rfl)
    | ((with_reducible apply lm_sAA); exact rfl; first | exact rfl | exact lm_roO (by omega) | exact lm_roM (by omega))
    | ((with_reducible apply lm_sI); exact lm_fpL (by omega))
    | ((with_reducible apply lm_sR); exact lm_fpB (by omega))
    | ((with_reducible apply lm_sP); exact lm_fpL (by omega); exact rfl)
    | ((with_reducible apply lm_sS); exact lm_ocO (by omega); exact rfl)
    | ((with_reducible apply lm_sA); exact rfl; omega)
    | ((with_reducible apply lm_sJ); exact rfl; omega)
    | ((with_reducible apply lm_sB); (first | exact rfl | exact lm_arB (by omega) | exact lm_arM (by omega)); omega)
    | ((with_reducible apply lm_wA); exact rfl; omega)
    | ((with_reducible apply lm_wJ); exact rfl; omega)
    | ((with_reducible apply lm_wB); (first | exact rfl | exact lm_arB (by omega) | exact lm_arM (by omega)); omega)
    | ((with_reducible apply lm_sAl); (first | exact rfl | exact lm_arB (by omega) | exact lm_arM (by omega)); omega)
    | ((with_reducible apply lm_iW); decide))
  refine lm_cI (lm_u49 (d := d) true) ?_
  refine lm_iF (show ¬ (1 : Int32) = 0 by decide) ?_
  rw [lm_K2, lm_K4]
  repeat (first
    | ((with_reducible apply lm_sI); exact rfl)
    | ((with_reducible apply lm_sR); exact rfl)
    | ((with_reducible apply lm_sS); exact rfl; exact rfl)
    | ((with_reducible apply lm_sL); exact rfl)
    | ((with_reducible apply lm_sP); exact rfl; exact rfl)
    | ((with_reducible apply lm_sPL); exact rfl; exact rfl)
    | ((with_reducible apply lm_sAA); exact rfl; first | exact rfl | exact lm_roO (by omega) | exact lm_roM (by omega))
    | ((with_reducible apply lm_sI); exact lm_fpL (by omega))
    | ((with_reducible apply lm_sR); exact lm_fpB (by omega))
    | ((with_reducible apply lm_sP); exact lm_fpL (by omega); exact rfl)
    | ((with_reducible apply lm_sS); exact lm_ocO (by omega); exact rfl)
    | ((with_reducible apply lm_sA); exact rfl; omega)
    | ((with_reducible apply lm_sJ); exact rfl; omega)
    | ((with_reducible apply lm_sB); (first | exact rfl | exact lm_arB (by omega) | exact lm_arM (by omega)); omega)
    | ((with_reducible apply lm_wA); exact rfl; omega)
    | ((with_reducible apply lm_wJ); exact rfl; omega)
    | ((with_reducible apply lm_wB); (first | exact rfl | exact lm_arB (by omega) | exact lm_arM (by omega)); omega)
    | ((with_reducible apply lm_sAl); (first | exact rfl | exact lm_arB (by omega) | exact lm_arM (by omega)); omega)
    | ((with_reducible apply lm_iW); decide))
  simp only [Nat.reduceDiv, Nat.reduceMod]
  rw [lm_u_row (by decide), r1 214 (by decide) (by decide), hl, lm_u_ne (by decide), F1.1, lm_om]
  refine lm_neT (by omega) (by omega) hne ?_
  refine lm_e40_107 ?_
  unfold lm_q40_107
  repeat (first
    | ((with_reducible apply lm_sI); exact rfl)
    | ((with_reducible apply lm_sR); exact rfl)
    | ((with_reducible apply lm_sS); exact rfl; exact rfl)
    | ((with_reducible apply lm_sL); exact rfl)
    | ((with_reducible apply lm_sP); exact rfl; exact rfl)
    | ((with_reducible apply lm_sPL); exact rfl; exact rfl)
    | ((with_reducible apply lm_sAA); exact rfl; first | exact rfl | exact lm_roO (by omega) | exact lm_roM (by omega))
    | ((with_reducible apply lm_sI); exact lm_fpL (by omega))
    | ((with_reducible apply lm_sR); exact lm_fpB (by omega))
    | ((with_reducible apply lm_sP); exact lm_fpL (by omega); exact rfl)
    | ((with_reducible apply lm_sS); exact lm_ocO (by omega); exact rfl)
    | ((with_reducible apply lm_sA); exact rfl; omega)
    | ((with_reducible apply lm_sJ); exact rfl; omega)
    | ((with_reducible apply lm_sB); (first | exact rfl | exact lm_arB (by omega) | exact lm_arM (by omega)); omega)
    | ((with_reducible apply lm_wA); exact rfl; omega)
    | ((with_reducible apply lm_wJ); exact rfl; omega)
    | ((with_reducible apply lm_wB); (first | exact rfl | exact lm_arB (by omega) | exact lm_arM (by omega)); omega)
    | ((with_reducible apply lm_sAl); (first | exact rfl | exact lm_arB (by omega) | exact lm_arM (by omega)); omega)
    | ((with_reducible apply lm_iW); decide))
  refine lm_cI (lm_u49 (d := d) false) ?_
  refine lm_iF (show ¬ ¬ (0 : Int32) = 0 by decide) ?_
  rw [lm_uu]
  exact rfl
theorem lm_u40c (hC : lm_cx m n = C) (hs : s ≤ 11) (hl : m 214 2 = Int32.ofNat (4 * lm_sn s)) (ok : lm_nOk s x2 x3 x4 x5) (h4 : x4 = Int32.ofNat z) (h5 : x5 = Int32.ofNat i) (hz : z ≤ lm_sh s) (hi : (i + 1) * 2 ^ z ≤ 512) : ∃ m' n' b, lm_cal sc (d + 20) 40 [.ref 203, .int (Int32.ofNat s), .int x2, .int x3, .int x4, .int x5] (lm_w m n x) = some (.ok (some (.int (if b = true then Int32.ofInt 1 else Int32.ofInt 0))), lm_w m' n' x) ∧ b = lm_ev (lm_hnd (lm_nW C s (m 208) x2 (Int32.toInt64 x3)) false (Int32.ofNat 0) z i) (fun t => lm_b8 (m 208 (3 * lm_sn s + t))) (lm_sn s) 0 ∧ (∀ q, q ≠ 203 → q ≠ 212 → q ≠ 214 → q ≠ 227 → (q < 333 ∨ 361 < q) → m' q = m q) ∧ (∀ j, j < 18 → j ≠ 4 → m' 203 j = m 203 j) ∧ (∀ q, q ≠ 203 → q ≠ 223 → q ≠ 224 → q ≠ 225 → q ≠ 226 → q ≠ 230 → n' q = n q) ∧ m' 203 4 = 0 ∧ (∀ j, j ≠ 6 → m' 214 j = m 214 j) ∧ m' 214 6 = Int32.ofNat (lm_sn s) ∧ ∀ t, t < lm_sn s → lm_b8 (m' 212 t) = lm_hnd (lm_nW C s (m 208) x2 (Int32.toInt64 x3)) false (Int32.ofNat 0) z i t := by
  have hpar := lm_spar s hs
  obtain ⟨m1, F1, f1, r1, K1, _⟩ := lm_l40 (sc := sc) (d := d + 18) (n := n) (x := x) (x2 := x2) (x3 := x3) (x4 := x4) (x5 := x5) (m := m) hs
  generalize eM2 : lm_u m1 203 4 0 = M2
  have r2 : ∀ r, r ≠ 203 → M2 r = m1 r := fun r hr => by rw [← eM2, lm_u_row hr]
  have t2 : ∀ j, j ≠ 4 → M2 203 j = m1 203 j := fun j hj => by rw [← eM2, lm_u_ne (fun g => hj g.2)]
  have u3 := lm_u75 (sc := sc) (d := d + 18) (m := M2) (n := n) (x := x) (q := 208) (p := 359) (v := 65536) (w := 32) (a := 0) (b := 0) (l := lm_sn s) rfl rfl (by decide) (by omega) (by omega) (by decide) (by decide)
  generalize eM3 : lm_fil M2 359 0 (0 + lm_sn s) (fun i => lm_b8 (M2 208 (0 + (i - 0)))) = M3 at u3
  have r3 : ∀ r, r ≠ 359 → M3 r = M2 r := fun r hr => by rw [← eM3, lm_fl_row hr]
  have u4 := lm_u75 (sc := sc) (d := d + 18) (m := M3) (n := n) (x := x) (q := 208) (p := 358) (v := 65536) (w := 32) (a := 2 * lm_sn s) (b := 0) (l := lm_sn s) rfl rfl (by decide) (by omega) (by omega) (by decide) (by decide)
  generalize eM4 : lm_fil M3 358 0 (0 + lm_sn s) (fun i => lm_b8 (M3 208 (2 * lm_sn s + (i - 0)))) = M4 at u4
  have r4 : ∀ r, r ≠ 358 → M4 r = M3 r := fun r hr => by rw [← eM4, lm_fl_row hr]
  have e208 : M2 208 = m 208 := by rw [r2 208 (by decide), r1 208 (by decide) (by decide)]
  obtain ⟨m5, c5, f5, a5⟩ := lm_u108 (sc := sc) (d := d + 18) (m := M4) (n := n) (x := x) (L := x2) (T := Int32.toInt64 x3)
  have k203 : ∀ j, j ≠ 4 → m5 203 j = m1 203 j := fun j hj => by rw [f5 203 (by decide), r4 203 (by decide), r3 203 (by decide), t2 j hj]
  have fr5 : ∀ r, r ≠ 203 → r ≠ 333 → r ≠ 358 → r ≠ 359 → m5 r = m r := fun r h1 h2 h3 h4 => by rw [f5 r h2, r4 r h3, r3 r h4, r2 r h1, r1 r h1 h2]
  have X5 : lm_RX (lm_nW C s (m 208) x2 (Int32.toInt64 x3)) m5 n := ⟨by
      show lm_cx m5 n = C
      unfold lm_cx lm_tb at hC ⊢
      rw [fr5 221 (by decide) (by decide) (by decide) (by decide)]
      exact hC, by
      show lm_RF m5 s
      unfold lm_RF
      rw [k203 67 (by decide), k203 68 (by decide), k203 69 (by decide), k203 70 (by decide), k203 71 (by decide), k203 72 (by decide), k203 73 (by decide), k203 74 (by decide)]
      exact F1, fun t ht => by
      have ht' : t < lm_sn s := ht
      rw [f5 358 (by decide), ← eM4, lm_fl_in (by omega), lm_b8b8, r3 208 (by decide), e208, Nat.sub_zero]
      show _ = lm_b8 (lm_clp (lm_sn s) _ t)
      rw [lm_clp_t ht', lm_b8b8], fun t ht => by
      have ht' : t < lm_sn s := ht
      rw [f5 359 (by decide), r4 359 (by decide), ← eM3, lm_fl_in (by omega), lm_b8b8, e208, Nat.sub_zero, Nat.zero_add]
      exact (lm_clp_t (f := fun t => lm_b8 (m 208 t)) ht').symm, a5, lm_nOk_L hs ok⟩
  obtain ⟨m6, n6, c6, f6, g6, S6, o6, v6⟩ := lm_u109 (sc := sc) (d := d + 10 - z) (x := x) (W := lm_nW C s (m 208) x2 (Int32.toInt64 x3)) hs z i 212 65536 0 m5 n (by omega) (by omega) X5 rfl (by unfold lm_okp; decide) (by decide) (by omega) (show 0 + lm_sn s ≤ 65536 by omega) (by decide)
  rw [show d + 10 - z + 9 + z = d + 19 by omega] at c6
  have fr6 : ∀ r, r ≠ 203 → r ≠ 212 → r ≠ 227 → (r < 333 ∨ 361 < r) → m6 r = m r := fun r h1 h2 h3 h4 => by rw [f6 r h1 h3 (by omega) (by omega) (by omega) h2, fr5 r h1 (by omega) (by omega) (by omega)]
  generalize eM7 : lm_u m6 214 6 (Int32.ofNat (lm_sn s)) = M7
  have r7 : ∀ r, r ≠ 214 → M7 r = m6 r := fun r hr => by rw [← eM7, lm_u_row hr]
  have k212 : ∀ t, t < lm_sn s → lm_b8 (M7 212 (0 + t)) = lm_hnd (lm_nW C s (m 208) x2 (Int32.toInt64 x3)) false (Int32.ofNat 0) z i t := fun t ht => by rw [r7 212 (by decide)]; exact v6 t ht
  have uA := lm_u80 (sc := sc) (d := d + 18) (m := M7) (n := n6) (x := x) (p := 212) (q := 208) (s := 65536) (r := 65536) (a := 0) (b := 3 * lm_sn s) (l := lm_sn s) rfl rfl (by omega) (by omega)
  rw [lm_ev_congr (f := fun t => lm_b8 (M7 212 (0 + t))) (g := fun t => lm_b8 (M7 208 (3 * lm_sn s + t))) (f' := lm_hnd (lm_nW C s (m 208) x2 (Int32.toInt64 x3)) false (Int32.ofNat 0) z i) (g' := fun t => lm_b8 (m 208 (3 * lm_sn s + t))) (lm_sn s) 0 (fun t _ ht => ⟨k212 t (by omega), by rw [r7 208 (by decide), fr6 208 (by decide) (by decide) (by decide) (by decide)]⟩)] at uA
  generalize eB : lm_ev (lm_hnd (lm_nW C s (m 208) x2 (Int32.toInt64 x3)) false (Int32.ofNat 0) z i) (fun t => lm_b8 (m 208 (3 * lm_sn s + t))) (lm_sn s) 0 = b at uA
  refine ⟨M7, n6, b, K1 ok _ ?_, rfl, fun q h1 h2 h3 h4 h5 => by rw [r7 q h3, fr6 q h1 h2 h4 h5], fun j h1 h2 => by rw [r7 203 (by decide), g6.1 j (by omega) (by omega) (by omega), k203 j h2, f1 j h2 (by omega)], g6.2, ?_, fun j hj => ?_, by rw [← eM7, lm_u_eq], fun t ht => by rw [← k212 t ht, Nat.zero_add]⟩
  · have w67 : ∀ M' : lm_MI, M' 203 = m6 203 → M' 203 67 = Int32.ofNat (lm_sn s) := fun M' e => by rw [e, g6.1 67 (by decide) (by decide) (by decide), k203 67 (by decide)]; exact F1.1
    clear k212 v6 o6 X5 S6 a5 eB K1
    subst h4
    subst h5
    refine lm_e40_79 ?_
    unfold lm_q40_79
    repeat (first
    | ((with_reducible apply lm_sI); exact rfl)
    | ((with_reducible apply lm_sR); exact rfl)
    | ((with_reducible apply lm_sS); exact rfl; exact rfl)
    | ((with_reducible apply lm_sL); exact rfl)
    | ((with_reducible apply lm_sP); exact rfl; exact rfl)
    | ((with_reducible apply lm_sPL); exact rfl; exact rfl)
    | ((with_reducible apply lm_sAA); exact rfl; first | exact rfl | exact lm_roO (by omega) | exact lm_roM (by omega))
    | ((with_reducible apply lm_sI); exact lm_fpL (by omega))
    | ((with_reducible apply lm_sR); exact lm_fpB (by omega))
    | ((with_reducible apply lm_sP); exact lm_fpL (by omega); exact rfl)
    | ((with_reducible apply lm_sS); exact lm_ocO (by omega); exact rfl)
    | ((with_reducible apply lm_sA); exact rfl; omega)
    | ((with_reducible apply lm_sJ); exact rfl; omega)
    | ((with_reducible apply lm_sB); (first | exact rfl | exact lm_arB (by omega) | exact lm_arM (by omega)); omega)
    | ((with_reducible apply lm_wA); exact rfl; omega)
    | ((with_reducible apply lm_wJ); exact rfl; omega)
    | ((with_reducible apply lm_wB); (first | exact rfl | exact lm_arB (by omega) | exact lm_arM (by omega)); omega)
    | ((with_reducible apply lm_sAl); (first | exact rfl | exact lm_arB (by omega) | exact lm_arM (by omega)); omega)
    | ((with_reducible apply lm_iW); decide))
    refine lm_cI (lm_u49 (d := d + 18) true) ?_
    refine lm_iF (show ¬ (1 : Int32) = 0 by decide) ?_
    rw [lm_K2, lm_K4]
    repeat (first
    | ((with_reducible apply lm_sI); exact rfl)
    | ((with_reducible apply lm_sR); exact rfl)
    | ((with_reducible apply lm_sS); exact rfl; exact rfl)
    | ((with_reducible apply lm_sL); exact rfl)
    | ((with_reducible apply lm_sP); exact rfl; exact rfl)
    | ((with_reducible apply lm_sPL); exact rfl; exact rfl)
    | ((with_reducible apply lm_sAA); exact rfl; first | exact rfl | exact lm_roO (by omega) | exact lm_roM (by omega))
    | ((with_reducible apply lm_sI); exact lm_fpL (by omega))
    | ((with_reducible apply lm_sR); exact lm_fpB (by omega))
    | ((with_reducible apply lm_sP); exact lm_fpL (by omega); exact rfl)
    | ((with_reducible apply lm_sS); exact lm_ocO (by omega); exact rfl)
    | ((with_reducible apply lm_sA); exact rfl; omega)
    | ((with_reducible apply lm_sJ); exact rfl; omega)
    | ((with_reducible apply lm_sB); (first | exact rfl | exact lm_arB (by omega) | exact lm_arM (by omega)); omega)
    | ((with_reducible apply lm_wA); exact rfl; omega)
    | ((with_reducible apply lm_wJ); exact rfl; omega)
    | ((with_reducible apply lm_wB); (first | exact rfl | exact lm_arB (by omega) | exact lm_arM (by omega)); omega)
    | ((with_reducible apply lm_sAl); (first | exact rfl | exact lm_arB (by omega) | exact lm_arM (by omega)); omega)
    | ((with_reducible apply lm_iW); decide))
    simp only [Nat.reduceDiv, Nat.reduceMod]
    rw [lm_u_row (by decide), r1 214 (by decide) (by decide), hl, lm_u_ne (by decide), F1.1, lm_om]
    refine lm_neF (by omega) (by omega) (by omega) ?_
    refine lm_e40_107 ?_
    unfold lm_q40_107
    repeat (first
    | ((with_reducible apply lm_sI); exact rfl)
    | ((with_reducible apply lm_sR); exact rfl)
    | ((with_reducible apply lm_sS); exact rfl; exact rfl)
    | ((with_reducible apply lm_sL); exact rfl)
    | ((with_reducible apply lm_sP); exact rfl; exact rfl)
    | ((with_reducible apply lm_sPL); exact rfl; exact rfl)
    | ((with_reducible apply lm_sAA); exact rfl; first | exact rfl | exact lm_roO (by omega) | exact lm_roM (by omega))
    | ((with_reducible apply lm_sI); exact lm_fpL (by omega))
    | ((with_reducible apply lm_sR); exact lm_fpB (by omega))
    | ((with_reducible apply lm_sP); exact lm_fpL (by omega); exact rfl)
    | ((with_reducible apply lm_sS); exact lm_ocO (by omega); exact rfl)
    | ((with_reducible apply lm_sA); exact rfl; omega)
    | ((with_reducible apply lm_sJ); exact rfl; omega)
    | ((with_reducible apply lm_sB); (first | exact rfl | exact lm_arB (by omega) | exact lm_arM (by omega)); omega)
    | ((with_reducible apply lm_wA); exact rfl; omega)
    | ((with_reducible apply lm_wJ); exact rfl; omega)
    | ((with_reducible apply lm_wB); (first | exact rfl | exact lm_arB (by omega) | exact lm_arM (by omega)); omega)
    | ((with_reducible apply lm_sAl); (first | exact rfl | exact lm_arB (by omega) | exact lm_arM (by omega)); omega)
    | ((with_reducible apply lm_iW); decide))
    refine lm_cI (lm_u49 (d := d + 18) true) ?_
    refine lm_iT (show ¬ (1 : Int32) = 0 by decide) ?_
    rw [lm_uu]
    rw [show lm_u m1 203 4 (cond true 0 (Int32.ofInt 2)) = M2 from eM2]
    rw [lm_K0, lm_K2, lm_K3, show Int32.ofInt 6 = Int32.ofNat 6 from rfl]
    repeat (first
    | ((with_reducible apply lm_sI); exact rfl)
    | ((with_reducible apply lm_sR); exact rfl)
    | ((with_reducible apply lm_sS); exact rfl; exact rfl)
    | ((with_reducible apply lm_sL); exact rfl)
    | ((with_reducible apply lm_sP); exact rfl; exact rfl)
    | ((with_reducible apply lm_sPL); exact rfl; exact rfl)
    | ((with_reducible apply lm_sAA); exact rfl; first | exact rfl | exact lm_roO (by omega) | exact lm_roM (by omega))
    | ((with_reducible apply lm_sI); exact lm_fpL (by omega))
    | ((with_reducible apply lm_sR); exact lm_fpB (by omega))
    | ((with_reducible apply lm_sP); exact lm_fpL (by omega); exact rfl)
    | ((with_reducible apply lm_sS); exact lm_ocO (by omega); exact rfl)
    | ((with_reducible apply lm_sA); exact rfl; omega)
    | ((with_reducible apply lm_sJ); exact rfl; omega)
    | ((with_reducible apply lm_sB); (first | exact rfl | exact lm_arB (by omega) | exact lm_arM (by omega)); omega)
    | ((with_reducible apply lm_wA); exact rfl; omega)
    | ((with_reducible apply lm_wJ); exact rfl; omega)
    | ((with_reducible apply lm_wB); (first | exact rfl | exact lm_arB (by omega) | exact lm_arM (by omega)); omega)
    | ((with_reducible apply lm_sAl); (first | exact rfl | exact lm_arB (by omega) | exact lm_arM (by omega)); omega)
    | ((with_reducible apply lm_iW); decide))
    simp only [Nat.reduceDiv, Nat.reduceMod]
    rw [t2 67 (by decide), F1.1]
    refine lm_cV u3 ?_
    repeat (first
    | ((with_reducible apply lm_sI); exact rfl)
    | ((with_reducible apply lm_sR); exact rfl)
    | ((with_reducible apply lm_sS); exact rfl; exact rfl)
    | ((with_reducible apply lm_sL); exact rfl)
    | ((with_reducible apply lm_sP); exact rfl; exact rfl)
    | ((with_reducible apply lm_sPL); exact rfl; exact rfl)
    | ((with_reducible apply lm_sAA); exact rfl; first | exact rfl | exact lm_roO (by omega) | exact lm_roM (by omega))
    | ((with_reducible apply lm_sI); exact lm_fpL (by omega))
    | ((with_reducible apply lm_sR); exact lm_fpB (by omega))
    | ((with_reducible apply lm_sP); exact lm_fpL (by omega); exact rfl)
    | ((with_reducible apply lm_sS); exact lm_ocO (by omega); exact rfl)
    | ((with_reducible apply lm_sA); exact rfl; omega)
    | ((with_reducible apply lm_sJ); exact rfl; omega)
    | ((with_reducible apply lm_sB); (first | exact rfl | exact lm_arB (by omega) | exact lm_arM (by omega)); omega)
    | ((with_reducible apply lm_wA); exact rfl; omega)
    | ((with_reducible apply lm_wJ); exact rfl; omega)
    | ((with_reducible apply lm_wB); (first | exact rfl | exact lm_arB (by omega) | exact lm_arM (by omega)); omega)
    | ((with_reducible apply lm_sAl); (first | exact rfl | exact lm_arB (by omega) | exact lm_arM (by omega)); omega)
    | ((with_reducible apply lm_iW); decide))
    simp only [Nat.reduceDiv, Nat.reduceMod]
    rw [r3 203 (by decide), t2 67 (by decide), F1.1, lm_om]
    refine lm_cV u4 ?_
    repeat (first
    | ((with_reducible apply lm_sI); exact rfl)
    | ((with_reducible apply lm_sR); exact rfl)
    | ((with_reducible apply lm_sS); exact rfl; exact rfl)
    | ((with_reducible apply lm_sL); exact rfl)
    | ((with_reducible apply lm_sP); exact rfl; exact rfl)
    | ((with_reducible apply lm_sPL); exact rfl; exact rfl)
    | ((with_reducible apply lm_sAA); exact rfl; first | exact rfl | exact lm_roO (by omega) | exact lm_roM (by omega))
    | ((with_reducible apply lm_sI); exact lm_fpL (by omega))
    | ((with_reducible apply lm_sR); exact lm_fpB (by omega))
    | ((with_reducible apply lm_sP); exact lm_fpL (by omega); exact rfl)
    | ((with_reducible apply lm_sS); exact lm_ocO (by omega); exact rfl)
    | ((with_reducible apply lm_sA); exact rfl; omega)
    | ((with_reducible apply lm_sJ); exact rfl; omega)
    | ((with_reducible apply lm_sB); (first | exact rfl | exact lm_arB (by omega) | exact lm_arM (by omega)); omega)
    | ((with_reducible apply lm_wA); exact rfl; omega)
    | ((with_reducible apply lm_wJ); exact rfl; omega)
    | ((with_reducible apply lm_wB); (first | exact rfl | exact lm_arB (by omega) | exact lm_arM (by omega)); omega)
    | ((with_reducible apply lm_sAl); (first | exact rfl | exact lm_arB (by omega) | exact lm_arM (by omega)); omega)
    | ((with_reducible apply lm_iW); decide))
    refine lm_cV c5 ?_
    repeat (first
    | ((with_reducible apply lm_sI); exact rfl)
    | ((with_reducible apply lm_sR); exact rfl)
    | ((with_reducible apply lm_sS); exact rfl; exact rfl)
    | ((with_reducible apply lm_sL); exact rfl)
    | ((with_reducible apply lm_sP); exact rfl; exact rfl)
    | ((with_reducible apply lm_sPL); exact rfl; exact rfl)
    | ((with_reducible apply lm_sAA); exact rfl; first | exact rfl | exact lm_roO (by omega) | exact lm_roM (by omega))
    | ((with_reducible apply lm_sI); exact lm_fpL (by omega))
    | ((with_reducible apply lm_sR); exact lm_fpB (by omega))
    | ((with_reducible apply lm_sP); exact lm_fpL (by omega); exact rfl)
    | ((with_reducible apply lm_sS); exact lm_ocO (by omega); exact rfl)
    | ((with_reducible apply lm_sA); exact rfl; omega)
    | ((with_reducible apply lm_sJ); exact rfl; omega)
    | ((with_reducible apply lm_sB); (first | exact rfl | exact lm_arB (by omega) | exact lm_arM (by omega)); omega)
    | ((with_reducible apply lm_wA); exact rfl; omega)
    | ((with_reducible apply lm_wJ); exact rfl; omega)
    | ((with_reducible apply lm_wB); (first | exact rfl | exact lm_arB (by omega) | exact lm_arM (by omega)); omega)
    | ((with_reducible apply lm_sAl); (first | exact rfl | exact lm_arB (by omega) | exact lm_arM (by omega)); omega)
    | ((with_reducible apply lm_iW); decide))
    refine lm_cV c6 ?_
    repeat (first
    | ((with_reducible apply lm_sI); exact rfl)
    | ((with_reducible apply lm_sR); exact rfl)
    | ((with_reducible apply lm_sS); exact rfl; exact rfl)
    | ((with_reducible apply lm_sL); exact rfl)
    | ((with_reducible apply lm_sP); exact rfl; exact rfl)
    | ((with_reducible apply lm_sPL); exact rfl; exact rfl)
    | ((with_reducible apply lm_sAA); exact rfl; first | exact rfl | exact lm_roO (by omega) | exact lm_roM (by omega))
    | ((with_reducible apply lm_sI); exact lm_fpL (by omega))
    | ((with_reducible apply lm_sR); exact lm_fpB (by omega))
    | ((with_reducible apply lm_sP); exact lm_fpL (by omega); exact rfl)
    | ((with_reducible apply lm_sS); exact lm_ocO (by omega); exact rfl)
    | ((with_reducible apply lm_sA); exact rfl; omega)
    | ((with_reducible apply lm_sJ); exact rfl; omega)
    | ((with_reducible apply lm_sB); (first | exact rfl | exact lm_arB (by omega) | exact lm_arM (by omega)); omega)
    | ((with_reducible apply lm_wA); exact rfl; omega)
    | ((with_reducible apply lm_wJ); exact rfl; omega)
    | ((with_reducible apply lm_wB); (first | exact rfl | exact lm_arB (by omega) | exact lm_arM (by omega)); omega)
    | ((with_reducible apply lm_sAl); (first | exact rfl | exact lm_arB (by omega) | exact lm_arM (by omega)); omega)
    | ((with_reducible apply lm_iW); decide))
    simp only [Nat.reduceDiv, Nat.reduceMod]
    rw [w67 m6 rfl, eM7, w67 M7 (r7 203 (by decide)), lm_om]
    refine lm_cI uA ?_
    cases b with
    | true => exact lm_iF (show ¬ (1 : Int32) = 0 by decide) rfl
    | false => exact lm_iT (show (0 : Int32) = 0 by decide) rfl
  · rw [r7 203 (by decide), g6.1 4 (by decide) (by decide) (by decide), f5 203 (by decide), r4 203 (by decide), r3 203 (by decide), ← eM2, lm_u_eq]
  · rw [← eM7, lm_u_ne (fun g => hj g.2), fr6 214 (by decide) (by decide) (by decide) (by decide)]
theorem lm_st18 (hc : lm_Con m n) (h : lm_Tie m) : lm_Stp (lm_sc xs) 39 40 [.int v, .int x2, .int x3, .int x4, .int x5] m n x := by
  intro r hr
  have hx := lm_rm_room hr
  rcases lm_range v (n := 11) (by omega) with ⟨s, hs, e⟩ | e
  · subst e
    have hpar := lm_spar s hs
    obtain ⟨l, a1, a2, a3, a4⟩ := h.2 2 (by decide)
    have bad : ∀ (k : Int32) (X1 : lm_H × Nat × Nat) (m1 m2 : lm_MI) , (∀ q, q ≠ 194 → q ≠ 195 → m1 q = m q) → (∀ q, q ≠ 203 → q ≠ 333 → m2 q = m1 q) → m2 203 3 = m1 203 3 → lm_Tie (lm_u m2 203 4 k) ∧ lm_kp m n (lm_u m2 203 4 k) n := by
      intro k X1 m1 m2 b2 d2 d3
      exact lm_tk (J := fun _ => false) (n2 := n) h (lm_fN.of (b2 11 (by decide) (by decide)) (b2 17 (by decide) (by decide)) : lm_fN m n m1 n) (fun q hq => b2 q (by omega) (by omega)) (fun j hj c => ⟨b2 _ (by omega) (by omega), b2 _ (by omega) (by omega)⟩) (fun q hq => by rw [lm_u_row (by omega), d2 q (by omega) (by omega)]) (by rw [lm_u_ne (by decide), d3]) (fun q hq => rfl) (fun j hj c => ⟨by rw [lm_u_row (by decide), d2 214 (by decide) (by decide)], by rw [lm_u_row (by omega), d2 _ (by omega) (by omega)]⟩) (fun j hj c => absurd c (by decide))
    by_cases ok : lm_nOk s x2 x3 x4 x5
    · by_cases c4 : l = 4 * lm_sn s
      · subst c4
        obtain ⟨z, i, e4, e5, hz, hi⟩ := lm_nOk_n hs ok
        obtain ⟨m1, n1, b, c1, eb, b2, b3, b4, b5⟩ := lm_u122c (xs := xs) (d := 591) (x := x) (n := n) (hc.cok xs) hs hc.rt a2 ok e4 e5 hz hi
        have C1 : lm_cx m1 n1 = lm_cx m n := b3.cx (b2 221 (by decide) (by decide) (by decide))
        have e208 : m1 208 = m 208 := b2 208 (by decide) (by decide) (by decide)
        have e214 : m1 214 = m 214 := b2 214 (by decide) (by decide) (by decide)
        obtain ⟨m2, n2, b', c2, eb', d2, d3, d4, d5, d6, d7, d8⟩ := lm_u40c (sc := lm_sc xs) (d := 580) (x := lm_so (if b = true then Int32.ofInt 1 else Int32.ofInt 0).toInt64 x) (m := m1) (n := n1) C1 hs (by rw [e214]; exact a3) ok e4 e5 hz hi
        have a4' : ∀ t, t < 4 * lm_sn s → lm_b8 (m 31 t) = lm_b8 (m 208 t) := a4
        have eW : lm_nW (lm_cx m n) s (m 31) x2 (Int32.toInt64 x3) = lm_nW (lm_cx m n) s (m1 208) x2 (Int32.toInt64 x3) := by rw [e208]; exact lm_nW_x a4'
        have ebb : b' = b := by
          rw [eb, eb', eW]
          exact lm_ev_congr (lm_sn s) 0 (fun t _ ht => ⟨rfl, by show lm_b8 (m1 208 _) = lm_b8 (m 31 _); rw [e208, a4' _ (by omega)]⟩)
        rw [ebb] at c2
        have T6 : lm_TieS m2 6 := ⟨lm_sn s, by omega, by
            show m2 38 1 = _
            rw [d2 38 (by decide) (by decide) (by decide) (by decide) (by decide)]
            exact b4, d7, fun t ht => by
            show lm_b8 (m2 39 t) = lm_b8 (m2 212 t)
            rw [d2 39 (by decide) (by decide) (by decide) (by decide) (by decide), b5 t ht, d8 t ht, eW]⟩
        obtain ⟨z1, z2⟩ := lm_tk (J := fun j => decide (j = 6)) (n2 := n2) h b3 (fun q hq => b2 q (by omega) (by omega) (by omega)) (fun j hj c => by
          have := of_decide_eq_false c
          exact ⟨b2 _ (by omega) (by omega) (by omega), b2 _ (by omega) (by omega) (by omega)⟩) (fun q hq => d2 q (by omega) (by omega) (by omega) (by omega) (by omega)) (d3 3 (by decide) (by decide)) (fun q hq => d4 q (by omega) (by omega) (by omega) (by omega) (by omega) (by omega)) (fun j hj c => by
          have := of_decide_eq_false c
          exact ⟨d6 j this, d2 _ (by omega) (by omega) (by omega) (by omega) (by omega)⟩) (fun j hj c => by
          have := of_decide_eq_true c
          subst this
          exact T6)
        refine ⟨0, (if b = true then Int32.ofInt 1 else Int32.ofInt 0), m1, n1, _, m2, n2, lm_v39 hr.2.2.2 c1, c2, d5, fun _ => ?_, z1, z2, lm_rm_so hr⟩
        rw [lm_gv_so hr.2.2.2]
      · obtain ⟨m1, b2, k1, _⟩ := lm_u122d (xs := xs) (d := 596) (x := x) (n := n) (x2 := x2) (x3 := x3) (x4 := x4) (x5 := x5) hs a2 a1 hx
        obtain ⟨m2, d2, d3, k2, _⟩ := lm_u40d (sc := lm_sc xs) (d := 598) (x := lm_xx 16 x) (m := m1) (n := n) (x2 := x2) (x3 := x3) (x4 := x4) (x5 := x5) hs (by rw [b2 214 (by decide) (by decide)]; exact a3) a1
        obtain ⟨z1, z2⟩ := bad 2 x m1 m2 b2 d2 d3
        exact ⟨2, 0, m1, n, _, _, n, lm_v39_16 hx (k1 ok c4), k2 ok c4, lm_u_eq, fun h => absurd h (by decide), z1, z2, lm_rm_xx hr⟩
    · obtain ⟨m1, b2, _, k1⟩ := lm_u122d (xs := xs) (d := 596) (x := x) (n := n) (x2 := x2) (x3 := x3) (x4 := x4) (x5 := x5) hs a2 a1 hx
      obtain ⟨m2, d2, d3, _, k2⟩ := lm_u40d (sc := lm_sc xs) (d := 598) (x := lm_xx 13 x) (m := m1) (n := n) (x2 := x2) (x3 := x3) (x4 := x4) (x5 := x5) hs (by rw [b2 214 (by decide) (by decide)]; exact a3) a1
      obtain ⟨z1, z2⟩ := bad 1 x m1 m2 b2 d2 d3
      exact ⟨1, 0, m1, n, _, _, n, lm_v39_13 hx (k1 ok), k2 ok, lm_u_eq, fun h => absurd h (by decide), z1, z2, lm_rm_xx hr⟩
  · exact ⟨1, 0, _, _, _, _, _, lm_v39_13 hx (lm_u122a (d := 596) e hx), lm_u40a (d := 598) e, lm_u_eq, fun h => absurd h (by decide), h.cod, lm_kpc, lm_rm_xx hr⟩
end LMTH
