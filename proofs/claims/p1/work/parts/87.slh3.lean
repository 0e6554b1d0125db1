/-! ===== slhNode on a fresh object ===== -/
section LMSN
variable {sc : lm_H} {xs : List Int32} {d s l : Nat} {m m1 : lm_MI} {n : lm_ML} {x : lm_H × Nat × Nat} {v x2 x3 x4 x5 : Int32}
def lm_nI5 (s : Nat) (x4 : Int32) : Int32 := ((Int32.ofInt 1) <<< ((Int32.ofNat (lm_sh s) - x4) &&& 31)) - (Int32.ofInt 1)
/-- the numbers of a node are in their ranges -/
def lm_nOk (s : Nat) (x2 x3 x4 x5 : Int32) : Prop := ((0 : Int32) ≤ x2 ∧ x2 ≤ Int32.ofNat (lm_sd s) - Int32.ofInt 1) ∧ (0 : Int32) ≤ x3 ∧ ((0 : Int32) ≤ x4 ∧ x4 ≤ Int32.ofNat (lm_sh s)) ∧ ((0 : Int32) ≤ x5 ∧ x5 ≤ lm_nI5 s x4)
theorem lm_le_max (v : Int32) : v ≤ Int32.ofInt 2147483647 := by
  rw [Int32.le_iff_toInt_le]
  have h := Int32.toInt_lt v
  have e : (Int32.ofInt 2147483647).toInt = 2147483647 := rfl
  rw [e]
  have : (2 : Int) ^ 31 = 2147483648 := rfl
  omega
theorem lm_u122a (h : ¬ ((0 : Int32) ≤ v ∧ v ≤ Int32.ofNat 11)) (hr : lm_rom x) : lm_cal sc (d + 3) 122 [.ref 0, .int v, .int x2, .int x3, .int x4, .int x5] (lm_w m n x) = some (.error (lm_xp x), lm_w m n (lm_xx 13 x)) := by
  refine lm_cal_of (Y := lm_m122) rfl rfl (lm_e122_0 ?_)
  unfold lm_q122_0
  exact lm_cVe (lm_u132e (d := d + 1) (k := 11) h hr)
theorem lm_u122b (hf : lm_Fre m) (hs : s ≤ 11) (hr : lm_rom x) : ∃ m1, lm_PS m s m1 ∧ (lm_nOk s x2 x3 x4 x5 → lm_cal (lm_sc xs) (d + 3) 122 [.ref 0, .int (Int32.ofNat s), .int x2, .int x3, .int x4, .int x5] (lm_w m n x) = some (.error (lm_xp x), lm_w m1 n (lm_xx 16 x))) ∧ (¬ lm_nOk s x2 x3 x4 x5 → lm_cal (lm_sc xs) (d + 3) 122 [.ref 0, .int (Int32.ofNat s), .int x2, .int x3, .int x4, .int x5] (lm_w m n x) = some (.error (lm_xp x), lm_w m1 n (lm_xx 13 x))) := by
  obtain ⟨m1, e, f⟩ := lm_u176 (xs := xs) (d := d) (m := m) (n := n) (x := x) hs
  have hb := lm_sn_b (s := s)
  have h2 : m1 30 1 = Int32.ofNat 0 := by rw [f.2.2.2 30 (by decide) (by decide)]; exact (hf.2.2 2 (by omega)).1
  have hd : ∀ r : Except Nat lm_R × lm_S, (lm_bind (lm_asV (lm_cal (lm_sc xs) (d + 2) 132 [.int x2, .int (Int32.ofInt 0), .int (Int32.ofNat (lm_sd s) - Int32.ofInt 1)])) (fun _ => lm_bind (lm_asV (lm_cal (lm_sc xs) (d + 2) 132 [.int x3, .int (Int32.ofInt 0), .int (Int32.ofInt 2147483647)])) fun _ => lm_bind (lm_asV (lm_cal (lm_sc xs) (d + 2) 132 [.int x4, .int (Int32.ofInt 0), .int (Int32.ofNat (lm_sh s))])) fun _ => lm_bind (lm_asV (lm_cal (lm_sc xs) (d + 2) 132 [.int x5, .int (Int32.ofInt 0), .int (lm_nI5 s x4)])) fun _ => lm_rn (lm_sc xs) (d + 2) lm_m122.2.2.2.2.1 (lm_reg lm_m122.2.2.2.2.2) (95, [(0, .ref 0), (2, .int x2), (3, .int x3), (4, .int x4), (5, .int x5)], [.int (Int32.ofInt 0)])) (lm_w m1 n x)) = some r → lm_cal (lm_sc xs) (d + 3) 122 [.ref 0, .int (Int32.ofNat s), .int x2, .int x3, .int x4, .int x5] (lm_w m n x) = some r := by
    intro r h
    refine lm_cal_of (Y := lm_m122) rfl rfl (lm_e122_0 ?_)
    unfold lm_q122_0
    refine lm_cV (lm_t132n (i := s) (d := d + 1) (n := 11) hs (by omega)) ?_
    repeat (first
    | ((with_reducible apply lm_sI); exact rfl)
    | ((with_reducible apply lm_sR); exact rfl)
    | ((with_reducible apply lm_sS); exact rfl; exact rfl)
    | ((with_reducible apply lm_sL); exact rfl)
    | ((with_reducible apply lm_sP); exact rfl; exact rfl)
    | ((with_reducible apply lm_sPL); exact rfl; exact rfl)
    | ((with_reducible apply lm_sAA); exact rfl; first | exact rfl | exact lm_roO (by omega) | exact lm_roM (by omega))
    | ((with_reducible apply lm_sI); exact lm_fpL (by omega))
    | ((with_reducible apply lm_sR); exact lm_fpB (by omega))
    | ((with_reducible apply lm_sP); exact lm_fpL (by omega); exact rfl)
    | ((with_reducible apply lm_sS); exact lm_ocO (by omega); exact rfl)
    | ((with_reducible apply lm_sA); exact rfl; omega)
    | ((with_reducible apply lm_sJ); exact rfl; omega)
    | ((with_reducible apply lm_sB); (first | exact rfl | exact lm_arB (by omega) | exact lm_arM (by omega)); omega)
    | ((with_reducible apply lm_wA); exact rfl; omega)
    | ((with_reducible apply lm_wJ); exact rfl; omega)
    | ((with_reducible apply lm_wB); (first | exact rfl | exact lm_arB (by omega) | exact lm_arM (by omega)); omega)
    | ((with_reducible apply lm_sAl); (first | exact rfl | exact lm_arB (by omega) | exact lm_arM (by omega)); omega)
    | ((with_reducible apply lm_iW); decide))
    refine lm_cV e ?_
    repeat (first
    | ((with_reducible apply lm_sI); exact rfl)
    | ((with_reducible apply lm_sR); exact rfl)
    | ((with_reducible apply lm_sS); exact rfl; exact rfl)
    | ((with_reducible apply lm_sL); exact rfl)
    | ((with_reducible apply lm_sP); exact rfl; exact rfl)
    | ((with_reducible apply lm_sPL); exact rfl; exact rfl)
    | ((with_reducible apply lm_sAA); exact rfl; first | exact rfl | exact lm_roO (by omega) | exact lm_roM (by omega))
    | ((with_reducible apply lm_sI); exact lm_fpL (by omega))
    | ((with_reducible apply lm_sR); exact lm_fpB (by omega))
    | ((with_reducible apply lm_sP); exact lm_fpL (by omega); exact rfl)
    | ((with_reducible apply lm_sS); exact lm_ocO (by omega); exact rfl)
    | ((with_reducible apply lm_sA); exact rfl; omega)
    | ((with_reducible apply lm_sJ); exact rfl; omega)
    | ((with_reducible apply lm_sB); (first | exact rfl | exact lm_arB (by omega) | exact lm_arM (by omega)); omega)
    | ((with_reducible apply lm_wA); exact rfl; omega)
    | ((with_reducible apply lm_wJ); exact rfl; omega)
    | ((with_reducible apply lm_wB); (first | exact rfl | exact lm_arB (by omega) | exact lm_arM (by omega)); omega)
    | ((with_reducible apply lm_sAl); (first | exact rfl | exact lm_arB (by omega) | exact lm_arM (by omega)); omega)
    | ((with_reducible apply lm_iW); decide))
    simp only [Nat.reduceDiv, Nat.reduceMod, f.2.1]
    by_cases c2 : (0 : Int32) ≤ x2 ∧ x2 ≤ Int32.ofNat (lm_sd s) - Int32.ofInt 1
    · have t2 := lm_t132 (sc := lm_sc xs) (σ := lm_w m1 n x) (d := d + 1) (v := x2) (a := Int32.ofInt 0) (b := Int32.ofNat (lm_sd s) - Int32.ofInt 1) c2.1 c2.2
      rw [lm_bd_ok (lm_asV_ok t2)] at h ⊢
      by_cases c3 : (0 : Int32) ≤ x3
      · have t3 := lm_t132 (sc := lm_sc xs) (σ := lm_w m1 n x) (d := d + 1) (v := x3) (a := Int32.ofInt 0) (b := Int32.ofInt 2147483647) c3 (lm_le_max x3)
        rw [lm_bd_ok (lm_asV_ok t3)] at h ⊢
        repeat (first
    | ((with_reducible apply lm_sI); exact rfl)
    | ((with_reducible apply lm_sR); exact rfl)
    | ((with_reducible apply lm_sS); exact rfl; exact rfl)
    | ((with_reducible apply lm_sL); exact rfl)
    | ((with_reducible apply lm_sP); exact rfl; exact rfl)
    | ((with_reducible apply lm_sPL); exact rfl; exact rfl)
    | ((with_reducible apply lm_sAA); exact rfl; first | exact rfl | exact lm_roO (by omega) | exact lm_roM (by omega))
    | ((with_reducible apply lm_sI); exact lm_fpL (by omega))
    | ((with_reducible apply lm_sR); exact lm_fpB (by omega))
    | ((with_reducible apply lm_sP); exact lm_fpL (by omega); exact rfl)
    | ((with_reducible apply lm_sS); exact lm_ocO (by omega); exact rfl)
    | ((with_reducible apply lm_sA); exact rfl; omega)
    | ((with_reducible apply lm_sJ); exact rfl; omega)
    | ((with_reducible apply lm_sB); (first | exact rfl | exact lm_arB (by omega) | exact lm_arM (by omega)); omega)
    | ((with_reducible apply lm_wA); exact rfl; omega)
    | ((with_reducible apply lm_wJ); exact rfl; omega)
    | ((with_reducible apply lm_wB); (first | exact rfl | exact lm_arB (by omega) | exact lm_arM (by omega)); omega)
    | ((with_reducible apply lm_sAl); (first | exact rfl | exact lm_arB (by omega) | exact lm_arM (by omega)); omega)
    | ((with_reducible apply lm_iW); decide))
        simp only [Nat.reduceDiv, Nat.reduceMod, f.2.2.1]
        by_cases c4 : (0 : Int32) ≤ x4 ∧ x4 ≤ Int32.ofNat (lm_sh s)
        · have t4 := lm_t132 (sc := lm_sc xs) (σ := lm_w m1 n x) (d := d + 1) (v := x4) (a := Int32.ofInt 0) (b := Int32.ofNat (lm_sh s)) c4.1 c4.2
          rw [lm_bd_ok (lm_asV_ok t4)] at h ⊢
          repeat (first
    | ((with_reducible apply lm_sI); exact rfl)
    | ((with_reducible apply lm_sR); exact rfl)
    | ((with_reducible apply lm_sS); exact rfl; exact rfl)
    | ((with_reducible apply lm_sL); exact rfl)
    | ((with_reducible apply lm_sP); exact rfl; exact rfl)
    | ((with_reducible apply lm_sPL); exact rfl; exact rfl)
    | ((with_reducible apply lm_sAA); exact rfl; first | exact rfl | exact lm_roO (by omega) | exact lm_roM (by omega))
    | ((with_reducible apply lm_sI); exact lm_fpL (by omega))
    | ((with_reducible apply lm_sR); exact lm_fpB (by omega))
    | ((with_reducible apply lm_sP); exact lm_fpL (by omega); exact rfl)
    | ((with_reducible apply lm_sS); exact lm_ocO (by omega); exact rfl)
    | ((with_reducible apply lm_sA); exact rfl; omega)
    | ((with_reducible apply lm_sJ); exact rfl; omega)
    | ((with_reducible apply lm_sB); (first | exact rfl | exact lm_arB (by omega) | exact lm_arM (by omega)); omega)
    | ((with_reducible apply lm_wA); exact rfl; omega)
    | ((with_reducible apply lm_wJ); exact rfl; omega)
    | ((with_reducible apply lm_wB); (first | exact rfl | exact lm_arB (by omega) | exact lm_arM (by omega)); omega)
    | ((with_reducible apply lm_sAl); (first | exact rfl | exact lm_arB (by omega) | exact lm_arM (by omega)); omega)
    | ((with_reducible apply lm_iW); decide))
          simp only [Nat.reduceDiv, Nat.reduceMod, f.2.2.1]
          by_cases c5 : (0 : Int32) ≤ x5 ∧ x5 ≤ lm_nI5 s x4
          · have t5 := lm_t132 (sc := lm_sc xs) (σ := lm_w m1 n x) (d := d + 1) (v := x5) (a := Int32.ofInt 0) (b := lm_nI5 s x4) c5.1 c5.2
            rw [lm_bd_ok (lm_asV_ok t5)] at h
            refine lm_cV t5 ?_
            rw [lm_K2, lm_K4]
            repeat (first
    | ((with_reducible apply lm_sI); exact rfl)
    | ((with_reducible apply lm_sR); exact rfl)
    | ((with_reducible apply lm_sS); exact rfl; exact rfl)
    | ((with_reducible apply lm_sL); exact rfl)
    | ((with_reducible apply lm_sP); exact rfl; exact rfl)
    | ((with_reducible apply lm_sPL); exact rfl; exact rfl)
    | ((with_reducible apply lm_sAA); exact rfl; first | exact rfl | exact lm_roO (by omega) | exact lm_roM (by omega))
    | ((with_reducible apply lm_sI); exact lm_fpL (by omega))
    | ((with_reducible apply lm_sR); exact lm_fpB (by omega))
    | ((with_reducible apply lm_sP); exact lm_fpL (by omega); exact rfl)
    | ((with_reducible apply lm_sS); exact lm_ocO (by omega); exact rfl)
    | ((with_reducible apply lm_sA); exact rfl; omega)
    | ((with_reducible apply lm_sJ); exact rfl; omega)
    | ((with_reducible apply lm_sB); (first | exact rfl | exact lm_arB (by omega) | exact lm_arM (by omega)); omega)
    | ((with_reducible apply lm_wA); exact rfl; omega)
    | ((with_reducible apply lm_wJ); exact rfl; omega)
    | ((with_reducible apply lm_wB); (first | exact rfl | exact lm_arB (by omega) | exact lm_arM (by omega)); omega)
    | ((with_reducible apply lm_sAl); (first | exact rfl | exact lm_arB (by omega) | exact lm_arM (by omega)); omega)
    | ((with_reducible apply lm_iW); decide))
            simp only [Nat.reduceDiv, Nat.reduceMod, h2, f.1, lm_om]
            exact lm_neT (by decide) (by omega) (by omega) h
          · have t5 := lm_u132g (sc := lm_sc xs) (m := m1) (n := n) (d := d + 1) (v := x5) (a := Int32.ofInt 0) (b := lm_nI5 s x4) c5 hr
            rw [lm_cVe t5] at h
            rw [← h]
            exact lm_cVe t5
        · have t4 := lm_u132g (sc := lm_sc xs) (m := m1) (n := n) (d := d + 1) (v := x4) (a := Int32.ofInt 0) (b := Int32.ofNat (lm_sh s)) c4 hr
          rw [lm_cVe t4] at h
          rw [← h]
          exact lm_cVe t4
      · have t3 := lm_u132g (sc := lm_sc xs) (m := m1) (n := n) (d := d + 1) (v := x3) (a := Int32.ofInt 0) (b := Int32.ofInt 2147483647) (fun g => c3 g.1) hr
        rw [lm_cVe t3] at h
        rw [← h]
        exact lm_cVe t3
    · have t2 := lm_u132g (sc := lm_sc xs) (m := m1) (n := n) (d := d + 1) (v := x2) (a := Int32.ofInt 0) (b := Int32.ofNat (lm_sd s) - Int32.ofInt 1) c2 hr
      rw [lm_cVe t2] at h
      rw [← h]
      exact lm_cVe t2
  refine ⟨m1, f, fun ok => ?_, fun nok => ?_⟩
  · obtain ⟨c2, c3, c4, c5⟩ := ok
    refine hd _ ?_
    refine lm_cV (lm_t132 (d := d + 1) c2.1 c2.2) ?_
    refine lm_cV (lm_t132 (d := d + 1) c3 (lm_le_max x3)) ?_
    refine lm_cV (lm_t132 (d := d + 1) c4.1 c4.2) ?_
    refine lm_cV (lm_t132 (d := d + 1) c5.1 c5.2) ?_
    refine lm_e122_95 ?_
    unfold lm_q122_95
    exact lm_cVe (lm_u160e (d := d + 1) hr)
  · refine hd _ ?_
    by_cases c2 : (0 : Int32) ≤ x2 ∧ x2 ≤ Int32.ofNat (lm_sd s) - Int32.ofInt 1
    · refine lm_cV (lm_t132 (d := d + 1) c2.1 c2.2) ?_
      by_cases c3 : (0 : Int32) ≤ x3
      · refine lm_cV (lm_t132 (d := d + 1) c3 (lm_le_max x3)) ?_
        by_cases c4 : (0 : Int32) ≤ x4 ∧ x4 ≤ Int32.ofNat (lm_sh s)
        · refine lm_cV (lm_t132 (d := d + 1) c4.1 c4.2) ?_
          exact lm_cVe (lm_u132g (d := d + 1) (fun g => nok ⟨c2, c3, c4, g⟩) hr)
        · exact lm_cVe (lm_u132g (d := d + 1) c4 hr)
      · exact lm_cVe (lm_u132g (d := d + 1) (fun g => c3 g.1) hr)
    · exact lm_cVe (lm_u132g (d := d + 1) c2 hr)
theorem lm_u40a (h : ¬ ((0 : Int32) ≤ v ∧ v ≤ Int32.ofNat 11)) : lm_cal sc (d + 2) 40 [.ref 203, .int v, .int x2, .int x3, .int x4, .int x5] (lm_w m n x) = some (.ok (some (.int 0)), lm_w (lm_u m 203 4 1) n x) := by
  refine lm_cal_of (Y := lm_m40) rfl rfl (lm_e40_0 ?_)
  unfold lm_q40_0
  refine lm_cI (lm_t52f (d := d) h) ?_
  repeat (first
    | ((with_reducible apply lm_sI); exact rfl)
    | ((with_reducible apply lm_sR); exact rfl)
    | ((with_reducible apply lm_sS); exact rfl; exact rfl)
    | ((with_reducible apply lm_sL); exact rfl)
    | ((with_reducible apply lm_sP); exact rfl; exact rfl)
    | ((with_reducible apply lm_sPL); exact rfl; exact rfl)
    | ((with_reducible apply lm_sAA); exact rfl; first | exact rfl | exact lm_roO (by omega) | exact lm_roM (by omega))
    | ((with_reducible apply lm_sI); exact lm_fpL (by omega))
    | ((with_reducible apply lm_sR); exact lm_fpB (by omega))
    | ((with_reducible apply lm_sP); exact lm_fpL (by omega); exact rfl)
    | ((with_reducible apply lm_sS); exact lm_ocO (by omega); exact rfl)
    | ((with_reducible apply lm_sA); exact rfl; omega)
    | ((with_reducible apply lm_sJ); exact rfl; omega)
    | ((with_reducible apply lm_sB); (first | exact rfl | exact lm_arB (by omega) | exact lm_arM (by omega)); omega)
    | ((with_reducible apply lm_wA); exact rfl; omega)
    | ((with_reducible apply lm_wJ); exact rfl; omega)
    | ((with_reducible apply lm_wB); (first | exact rfl | exact lm_arB (by omega) | exact lm_arM (by omega)); omega)
    | ((with_reducible apply lm_sAl); (first | exact rfl | exact lm_arB (by omega) | exact lm_arM (by omega)); omega)
    | ((with_reducible apply lm_iW); decide))
  refine lm_cI (lm_u49 (d := d) false) ?_
  refine lm_iF (show ¬ ¬ (0 : Int32) = 0 by decide) ?_
  exact rfl
theorem lm_u40b (hf : ∀ i, i < 8 → m 214 i = Int32.ofNat 0) (hs : s ≤ 11) : ∃ m2, lm_PM (lm_u m 203 4 0) s m2 ∧ (lm_nOk s x2 x3 x4 x5 → lm_cal sc (d + 2) 40 [.ref 203, .int (Int32.ofNat s), .int x2, .int x3, .int x4, .int x5] (lm_w m n x) = some (.ok (some (.int 0)), lm_w (lm_u m2 203 4 2) n x)) ∧ (¬ lm_nOk s x2 x3 x4 x5 → lm_cal sc (d + 2) 40 [.ref 203, .int (Int32.ofNat s), .int x2, .int x3, .int x4, .int x5] (lm_w m n x) = some (.ok (some (.int 0)), lm_w (lm_u m2 203 4 1) n x)) := by
  obtain ⟨m2, e, f⟩ := lm_u107 (sc := sc) (d := d) (m := lm_u m 203 4 0) (n := n) (x := x) hs
  have hb := lm_sn_b (s := s)
  have g : ∀ i, i < 8 → m2 214 i = Int32.ofNat 0 := fun i hi => by rw [f.2.2.2.2 214 (by decide) (by decide), lm_u_row (by decide)]; exact hf i hi
  have bad : lm_rn sc (d + 1) lm_m40.2.2.2.2.1 (lm_reg lm_m40.2.2.2.2.2) (78, [(0, .ref 203), (2, .int x2), (3, .int x3), (4, .int x4), (5, .int x5)], [.ref 203]) (lm_w m2 n x) = some (.ok (some (.int 0)), lm_w (lm_u m2 203 4 1) n x) := by
    refine lm_e40_78 ?_
    unfold lm_q40_78
    refine lm_e40_79 ?_
    unfold lm_q40_79
    repeat (first
    | ((with_reducible apply lm_sI); exact rfl)
    | ((with_reducible apply lm_sR); exact rfl)
    | ((with_reducible apply lm_sS); exact rfl; exact rfl)
    | ((with_reducible apply lm_sL); exact rfl)
    | ((with_reducible apply lm_sP); exact rfl; exact rfl)
    | ((with_reducible apply lm_sPL); exact rfl; exact rfl)
    | ((with_reducible apply lm_sAA); exact rfl; first | exact rfl | exact lm_roO (by omega) | exact lm_roM (by omega))
    | ((with_reducible apply lm_sI); exact lm_fpL (by omega))
    | ((with_reducible apply lm_sR); exact lm_fpB (by omega))
    | ((with_reducible apply lm_sP); exact lm_fpL (by omega); exact rfl)
    | ((with_reducible apply lm_sS); exact lm_ocO (by omega); exact rfl)
    | ((with_reducible apply lm_sA); exact rfl; omega)
    | ((with_reducible apply lm_sJ); exact rfl; omega)
    | ((with_reducible apply lm_sB); (first | exact rfl | exact lm_arB (by omega) | exact lm_arM (by omega)); omega)
    | ((with_reducible apply lm_wA); exact rfl; omega)
    | ((with_reducible apply lm_wJ); exact rfl; omega)
    | ((with_reducible apply lm_wB); (first | exact rfl | exact lm_arB (by omega) | exact lm_arM (by omega)); omega)
    | ((with_reducible apply lm_sAl); (first | exact rfl | exact lm_arB (by omega) | exact lm_arM (by omega)); omega)
    | ((with_reducible apply lm_iW); decide))
    refine lm_cI (lm_u49 (d := d) false) ?_
    refine lm_iT (show (0 : Int32) = 0 by decide) ?_
    exact rfl
  have good : lm_rn sc (d + 1) lm_m40.2.2.2.2.1 (lm_reg lm_m40.2.2.2.2.2) (79, [(0, .ref 203), (2, .int x2), (3, .int x3), (4, .int x4), (5, .int x5)], [.int (Int32.ofInt 1), .ref 203]) (lm_w m2 n x) = some (.ok (some (.int 0)), lm_w (lm_u m2 203 4 2) n x) := by
    refine lm_e40_79 ?_
    unfold lm_q40_79
    repeat (first
    | ((with_reducible apply lm_sI); exact rfl)
    | ((with_reducible apply lm_sR); exact rfl)
    | ((with_reducible apply lm_sS); exact rfl; exact rfl)
    | ((with_reducible apply lm_sL); exact rfl)
    | ((with_reducible apply lm_sP); exact rfl; exact rfl)
    | ((with_reducible apply lm_sPL); exact rfl; exact rfl)
    | ((with_reducible apply lm_sAA); exact rfl; first | exact rfl | exact lm_roO (by omega) | exact lm_roM (by omega))
    | ((with_reducible apply lm_sI); exact lm_fpL (by omega))
    | ((with_reducible apply lm_sR); exact lm_fpB (by omega))
    | ((with_reducible apply lm_sP); exact lm_fpL (by omega); exact rfl)
    | ((with_reducible apply lm_sS); exact lm_ocO (by omega); exact rfl)
    | ((with_reducible apply lm_sA); exact rfl; omega)
    | ((with_reducible apply lm_sJ); exact rfl; omega)
    | ((with_reducible apply lm_sB); (first | exact rfl | exact lm_arB (by omega) | exact lm_arM (by omega)); omega)
    | ((with_reducible apply lm_wA); exact rfl; omega)
    | ((with_reducible apply lm_wJ); exact rfl; omega)
    | ((with_reducible apply lm_wB); (first | exact rfl | exact lm_arB (by omega) | exact lm_arM (by omega)); omega)
    | ((with_reducible apply lm_sAl); (first | exact rfl | exact lm_arB (by omega) | exact lm_arM (by omega)); omega)
    | ((with_reducible apply lm_iW); decide))
    refine lm_cI (lm_u49 (d := d) true) ?_
    refine lm_iF (show ¬ (1 : Int32) = 0 by decide) ?_
    rw [lm_K2, lm_K4]
    repeat (first
    | ((with_reducible apply lm_sI); exact rfl)
    | ((with_reducible apply lm_sR); exact rfl)
    | ((with_reducible apply lm_sS); exact rfl; exact rfl)
    | ((with_reducible apply lm_sL); exact rfl)
    | ((with_reducible apply lm_sP); exact rfl; exact rfl)
    | ((with_reducible apply lm_sPL); exact rfl; exact rfl)
    | ((with_reducible apply lm_sAA); exact rfl; first | exact rfl | exact lm_roO (by omega) | exact lm_roM (by omega))
    | ((with_reducible apply lm_sI); exact lm_fpL (by omega))
    | ((with_reducible apply lm_sR); exact lm_fpB (by omega))
    | ((with_reducible apply lm_sP); exact lm_fpL (by omega); exact rfl)
    | ((with_reducible apply lm_sS); exact lm_ocO (by omega); exact rfl)
    | ((with_reducible apply lm_sA); exact rfl; omega)
    | ((with_reducible apply lm_sJ); exact rfl; omega)
    | ((with_reducible apply lm_sB); (first | exact rfl | exact lm_arB (by omega) | exact lm_arM (by omega)); omega)
    | ((with_reducible apply lm_wA); exact rfl; omega)
    | ((with_reducible apply lm_wJ); exact rfl; omega)
    | ((with_reducible apply lm_wB); (first | exact rfl | exact lm_arB (by omega) | exact lm_arM (by omega)); omega)
    | ((with_reducible apply lm_sAl); (first | exact rfl | exact lm_arB (by omega) | exact lm_arM (by omega)); omega)
    | ((with_reducible apply lm_iW); decide))
    simp only [Nat.reduceDiv, Nat.reduceMod]
    rw [lm_u_row (by decide), g 2 (by omega), lm_u_ne (by decide), f.1, lm_om]
    refine lm_neT (by decide) (by omega) (by omega) ?_
    refine lm_e40_107 ?_
    unfold lm_q40_107
    repeat (first
    | ((with_reducible apply lm_sI); exact rfl)
    | ((with_reducible apply lm_sR); exact rfl)
    | ((with_reducible apply lm_sS); exact rfl; exact rfl)
    | ((with_reducible apply lm_sL); exact rfl)
    | ((with_reducible apply lm_sP); exact rfl; exact rfl)
    | ((with_reducible apply lm_sPL); exact rfl; exact rfl)
    | ((with_reducible apply lm_sAA); exact rfl; first | exact rfl | exact lm_roO (by omega) | exact lm_roM (by omega))
    | ((with_reducible apply lm_sI); exact lm_fpL (by omega))
    | ((with_reducible apply lm_sR); exact lm_fpB (by omega))
    | ((with_reducible apply lm_sP); exact lm_fpL (by omega); exact rfl)
    | ((with_reducible apply lm_sS); exact lm_ocO (by omega); exact rfl)
    | ((with_reducible apply lm_sA); exact rfl; omega)
    | ((with_reducible apply lm_sJ); exact rfl; omega)
    | ((with_reducible apply lm_sB); (first | exact rfl | exact lm_arB (by omega) | exact lm_arM (by omega)); omega)
    | ((with_reducible apply lm_wA); exact rfl; omega)
    | ((with_reducible apply lm_wJ); exact rfl; omega)
    | ((with_reducible apply lm_wB); (first | exact rfl | exact lm_arB (by omega) | exact lm_arM (by omega)); omega)
    | ((with_reducible apply lm_sAl); (first | exact rfl | exact lm_arB (by omega) | exact lm_arM (by omega)); omega)
    | ((with_reducible apply lm_iW); decide))
    refine lm_cI (lm_u49 (d := d) false) ?_
    refine lm_iF (show ¬ ¬ (0 : Int32) = 0 by decide) ?_
    rw [lm_uu]
    exact rfl
  refine ⟨m2, f, fun ok => ?_, fun nok => ?_⟩
  · obtain ⟨c2, c3, c4, c5⟩ := ok
    refine lm_cal_of (Y := lm_m40) rfl rfl (lm_e40_0 ?_)
    unfold lm_q40_0
    refine lm_cI (lm_t52n (i := s) (d := d) (n := 11) hs (by omega)) ?_
    repeat (first
    | ((with_reducible apply lm_sI); exact rfl)
    | ((with_reducible apply lm_sR); exact rfl)
    | ((with_reducible apply lm_sS); exact rfl; exact rfl)
    | ((with_reducible apply lm_sL); exact rfl)
    | ((with_reducible apply lm_sP); exact rfl; exact rfl)
    | ((with_reducible apply lm_sPL); exact rfl; exact rfl)
    | ((with_reducible apply lm_sAA); exact rfl; first | exact rfl | exact lm_roO (by omega) | exact lm_roM (by omega))
    | ((with_reducible apply lm_sI); exact lm_fpL (by omega))
    | ((with_reducible apply lm_sR); exact lm_fpB (by omega))
    | ((with_reducible apply lm_sP); exact lm_fpL (by omega); exact rfl)
    | ((with_reducible apply lm_sS); exact lm_ocO (by omega); exact rfl)
    | ((with_reducible apply lm_sA); exact rfl; omega)
    | ((with_reducible apply lm_sJ); exact rfl; omega)
    | ((with_reducible apply lm_sB); (first | exact rfl | exact lm_arB (by omega) | exact lm_arM (by omega)); omega)
    | ((with_reducible apply lm_wA); exact rfl; omega)
    | ((with_reducible apply lm_wJ); exact rfl; omega)
    | ((with_reducible apply lm_wB); (first | exact rfl | exact lm_arB (by omega) | exact lm_arM (by omega)); omega)
    | ((with_reducible apply lm_sAl); (first | exact rfl | exact lm_arB (by omega) | exact lm_arM (by omega)); omega)
    | ((with_reducible apply lm_iW); decide))
    refine lm_cI (lm_u49 (d := d) true) ?_
    refine lm_iT (show ¬ (1 : Int32) = 0 by decide) ?_
    repeat (first
    | ((with_reducible apply lm_sI); exact rfl)
    | ((with_reducible apply lm_sR); exact rfl)
    | ((with_reducible apply lm_sS); exact rfl; exact rfl)
    | ((with_reducible apply lm_sL); exact rfl)
    | ((with_reducible apply lm_sP); exact rfl; exact rfl)
    | ((with_reducible apply lm_sPL); exact rfl; exact rfl)
    | ((with_reducible apply lm_sAA); exact rfl; first | exact rfl | exact lm_roO (by omega) | exact lm_roM (by omega))
    | ((with_reducible apply lm_sI); exact lm_fpL (by omega))
    | ((with_reducible apply lm_sR); exact lm_fpB (by omega))
    | ((with_reducible apply lm_sP); exact lm_fpL (by omega); exact rfl)
    | ((with_reducible apply lm_sS); exact lm_ocO (by omega); exact rfl)
    | ((with_reducible apply lm_sA); exact rfl; omega)
    | ((with_reducible apply lm_sJ); exact rfl; omega)
    | ((with_reducible apply lm_sB); (first | exact rfl | exact lm_arB (by omega) | exact lm_arM (by omega)); omega)
    | ((with_reducible apply lm_wA); exact rfl; omega)
    | ((with_reducible apply lm_wJ); exact rfl; omega)
    | ((with_reducible apply lm_wB); (first | exact rfl | exact lm_arB (by omega) | exact lm_arM (by omega)); omega)
    | ((with_reducible apply lm_sAl); (first | exact rfl | exact lm_arB (by omega) | exact lm_arM (by omega)); omega)
    | ((with_reducible apply lm_iW); decide))
    refine lm_cV e ?_
    repeat (first
    | ((with_reducible apply lm_sI); exact rfl)
    | ((with_reducible apply lm_sR); exact rfl)
    | ((with_reducible apply lm_sS); exact rfl; exact rfl)
    | ((with_reducible apply lm_sL); exact rfl)
    | ((with_reducible apply lm_sP); exact rfl; exact rfl)
    | ((with_reducible apply lm_sPL); exact rfl; exact rfl)
    | ((with_reducible apply lm_sAA); exact rfl; first | exact rfl | exact lm_roO (by omega) | exact lm_roM (by omega))
    | ((with_reducible apply lm_sI); exact lm_fpL (by omega))
    | ((with_reducible apply lm_sR); exact lm_fpB (by omega))
    | ((with_reducible apply lm_sP); exact lm_fpL (by omega); exact rfl)
    | ((with_reducible apply lm_sS); exact lm_ocO (by omega); exact rfl)
    | ((with_reducible apply lm_sA); exact rfl; omega)
    | ((with_reducible apply lm_sJ); exact rfl; omega)
    | ((with_reducible apply lm_sB); (first | exact rfl | exact lm_arB (by omega) | exact lm_arM (by omega)); omega)
    | ((with_reducible apply lm_wA); exact rfl; omega)
    | ((with_reducible apply lm_wJ); exact rfl; omega)
    | ((with_reducible apply lm_wB); (first | exact rfl | exact lm_arB (by omega) | exact lm_arM (by omega)); omega)
    | ((with_reducible apply lm_sAl); (first | exact rfl | exact lm_arB (by omega) | exact lm_arM (by omega)); omega)
    | ((with_reducible apply lm_iW); decide))
    simp only [Nat.reduceDiv, Nat.reduceMod, f.2.1]
    refine lm_cI (lm_t52t (d := d) c2) ?_
    refine lm_iF (show ¬ (1 : Int32) = 0 by decide) ?_
    refine lm_iF (show ¬ x3 < 0 from Int32.not_lt.mpr c3) ?_
    repeat (first
    | ((with_reducible apply lm_sI); exact rfl)
    | ((with_reducible apply lm_sR); exact rfl)
    | ((with_reducible apply lm_sS); exact rfl; exact rfl)
    | ((with_reducible apply lm_sL); exact rfl)
    | ((with_reducible apply lm_sP); exact rfl; exact rfl)
    | ((with_reducible apply lm_sPL); exact rfl; exact rfl)
    | ((with_reducible apply lm_sAA); exact rfl; first | exact rfl | exact lm_roO (by omega) | exact lm_roM (by omega))
    | ((with_reducible apply lm_sI); exact lm_fpL (by omega))
    | ((with_reducible apply lm_sR); exact lm_fpB (by omega))
    | ((with_reducible apply lm_sP); exact lm_fpL (by omega); exact rfl)
    | ((with_reducible apply lm_sS); exact lm_ocO (by omega); exact rfl)
    | ((with_reducible apply lm_sA); exact rfl; omega)
    | ((with_reducible apply lm_sJ); exact rfl; omega)
    | ((with_reducible apply lm_sB); (first | exact rfl | exact lm_arB (by omega) | exact lm_arM (by omega)); omega)
    | ((with_reducible apply lm_wA); exact rfl; omega)
    | ((with_reducible apply lm_wJ); exact rfl; omega)
    | ((with_reducible apply lm_wB); (first | exact rfl | exact lm_arB (by omega) | exact lm_arM (by omega)); omega)
    | ((with_reducible apply lm_sAl); (first | exact rfl | exact lm_arB (by omega) | exact lm_arM (by omega)); omega)
    | ((with_reducible apply lm_iW); decide))
    simp only [Nat.reduceDiv, Nat.reduceMod, f.2.2.1]
    refine lm_cI (lm_t52t (d := d) c4) ?_
    refine lm_iF (show ¬ (1 : Int32) = 0 by decide) ?_
    repeat (first
    | ((with_reducible apply lm_sI); exact rfl)
    | ((with_reducible apply lm_sR); exact rfl)
    | ((with_reducible apply lm_sS); exact rfl; exact rfl)
    | ((with_reducible apply lm_sL); exact rfl)
    | ((with_reducible apply lm_sP); exact rfl; exact rfl)
    | ((with_reducible apply lm_sPL); exact rfl; exact rfl)
    | ((with_reducible apply lm_sAA); exact rfl; first | exact rfl | exact lm_roO (by omega) | exact lm_roM (by omega))
    | ((with_reducible apply lm_sI); exact lm_fpL (by omega))
    | ((with_reducible apply lm_sR); exact lm_fpB (by omega))
    | ((with_reducible apply lm_sP); exact lm_fpL (by omega); exact rfl)
    | ((with_reducible apply lm_sS); exact lm_ocO (by omega); exact rfl)
    | ((with_reducible apply lm_sA); exact rfl; omega)
    | ((with_reducible apply lm_sJ); exact rfl; omega)
    | ((with_reducible apply lm_sB); (first | exact rfl | exact lm_arB (by omega) | exact lm_arM (by omega)); omega)
    | ((with_reducible apply lm_wA); exact rfl; omega)
    | ((with_reducible apply lm_wJ); exact rfl; omega)
    | ((with_reducible apply lm_wB); (first | exact rfl | exact lm_arB (by omega) | exact lm_arM (by omega)); omega)
    | ((with_reducible apply lm_sAl); (first | exact rfl | exact lm_arB (by omega) | exact lm_arM (by omega)); omega)
    | ((with_reducible apply lm_iW); decide))
    simp only [Nat.reduceDiv, Nat.reduceMod, f.2.2.1]
    refine lm_cI (lm_t52t (d := d) c5) ?_
    refine lm_iF (show ¬ (1 : Int32) = 0 by decide) ?_
    exact good
  · refine lm_cal_of (Y := lm_m40) rfl rfl (lm_e40_0 ?_)
    unfold lm_q40_0
    refine lm_cI (lm_t52n (i := s) (d := d) (n := 11) hs (by omega)) ?_
    repeat (first
    | ((with_reducible apply lm_sI); exact rfl)
    | ((with_reducible apply lm_sR); exact rfl)
    | ((with_reducible apply lm_sS); exact rfl; exact rfl)
    | ((with_reducible apply lm_sL); exact rfl)
    | ((with_reducible apply lm_sP); exact rfl; exact rfl)
    | ((with_reducible apply lm_sPL); exact rfl; exact rfl)
    | ((with_reducible apply lm_sAA); exact rfl; first | exact rfl | exact lm_roO (by omega) | exact lm_roM (by omega))
    | ((with_reducible apply lm_sI); exact lm_fpL (by omega))
    | ((with_reducible apply lm_sR); exact lm_fpB (by omega))
    | ((with_reducible apply lm_sP); exact lm_fpL (by omega); exact rfl)
    | ((with_reducible apply lm_sS); exact lm_ocO (by omega); exact rfl)
    | ((with_reducible apply lm_sA); exact rfl; omega)
    | ((with_reducible apply lm_sJ); exact rfl; omega)
    | ((with_reducible apply lm_sB); (first | exact rfl | exact lm_arB (by omega) | exact lm_arM (by omega)); omega)
    | ((with_reducible apply lm_wA); exact rfl; omega)
    | ((with_reducible apply lm_wJ); exact rfl; omega)
    | ((with_reducible apply lm_wB); (first | exact rfl | exact lm_arB (by omega) | exact lm_arM (by omega)); omega)
    | ((with_reducible apply lm_sAl); (first | exact rfl | exact lm_arB (by omega) | exact lm_arM (by omega)); omega)
    | ((with_reducible apply lm_iW); decide))
    refine lm_cI (lm_u49 (d := d) true) ?_
    refine lm_iT (show ¬ (1 : Int32) = 0 by decide) ?_
    repeat (first
    | ((with_reducible apply lm_sI); exact rfl)
    | ((with_reducible apply lm_sR); exact rfl)
    | ((with_reducible apply lm_sS); exact rfl; exact rfl)
    | ((with_reducible apply lm_sL); exact rfl)
    | ((with_reducible apply lm_sP); exact rfl; exact rfl)
    | ((with_reducible apply lm_sPL); exact rfl; exact rfl)
    | ((with_reducible apply lm_sAA); exact rfl; first | exact rfl | exact lm_roO (by omega) | exact lm_roM (by omega))
    | ((with_reducible apply lm_sI); exact lm_fpL (by omega))
    | ((with_reducible apply lm_sR); exact lm_fpB (by omega))
    | ((with_reducible apply lm_sP); exact lm_fpL (by omega); exact rfl)
    | ((with_reducible apply lm_sS); exact lm_ocO (by omega); exact rfl)
    | ((with_reducible apply lm_sA); exact rfl; omega)
    | ((with_reducible apply lm_sJ); exact rfl; omega)
    | ((with_reducible apply lm_sB); (first | exact rfl | exact lm_arB (by omega) | exact lm_arM (by omega)); omega)
    | ((with_reducible apply lm_wA); exact rfl; omega)
    | ((with_reducible apply lm_wJ); exact rfl; omega)
    | ((with_reducible apply lm_wB); (first | exact rfl | exact lm_arB (by omega) | exact lm_arM (by omega)); omega)
    | ((with_reducible apply lm_sAl); (first | exact rfl | exact lm_arB (by omega) | exact lm_arM (by omega)); omega)
    | ((with_reducible apply lm_iW); decide))
    refine lm_cV e ?_
    repeat (first
    | ((with_reducible apply lm_sI); exact rfl)
    | ((with_reducible apply lm_sR); exact rfl)
    | ((with_reducible apply lm_sS); exact rfl; exact rfl)
    | ((with_reducible apply lm_sL); exact rfl)
    | ((with_reducible apply lm_sP); exact rfl; exact rfl)
    | ((with_reducible apply lm_sPL); exact rfl; exact rfl)
    | ((with_reducible apply lm_sAA); exact rfl; first | exact rfl | exact lm_roO (by omega) | exact lm_roM (by omega))
    | ((with_reducible apply lm_sI); exact lm_fpL (by omega))
    | ((with_reducible apply lm_sR); exact lm_fpB (by omega))
    | ((with_reducible apply lm_sP); exact lm_fpL (by omega); exact rfl)
    | ((with_reducible apply lm_sS); exact lm_ocO (by omega); exact rfl)
    | ((with_reducible apply lm_sA); exact rfl; omega)
    | ((with_reducible apply lm_sJ); exact rfl; omega)
    | ((with_reducible apply lm_sB); (first | exact rfl | exact lm_arB (by omega) | exact lm_arM (by omega)); omega)
    | ((with_reducible apply lm_wA); exact rfl; omega)
    | ((with_reducible apply lm_wJ); exact rfl; omega)
    | ((with_reducible apply lm_wB); (first | exact rfl | exact lm_arB (by omega) | exact lm_arM (by omega)); omega)
    | ((with_reducible apply lm_sAl); (first | exact rfl | exact lm_arB (by omega) | exact lm_arM (by omega)); omega)
    | ((with_reducible apply lm_iW); decide))
    simp only [Nat.reduceDiv, Nat.reduceMod, f.2.1]
    by_cases c2 : (0 : Int32) ≤ x2 ∧ x2 ≤ Int32.ofNat (lm_sd s) - Int32.ofInt 1
    · refine lm_cI (lm_t52t (d := d) c2) ?_
      refine lm_iF (show ¬ (1 : Int32) = 0 by decide) ?_
      by_cases c3 : (0 : Int32) ≤ x3
      · refine lm_iF (show ¬ x3 < 0 from Int32.not_lt.mpr c3) ?_
        repeat (first
    | ((with_reducible apply lm_sI); exact rfl)
    | ((with_reducible apply lm_sR); exact rfl)
    | ((with_reducible apply lm_sS); exact rfl; exact rfl)
    | ((with_reducible apply lm_sL); exact rfl)
    | ((with_reducible apply lm_sP); exact rfl; exact rfl)
    | ((with_reducible apply lm_sPL); exact rfl; exact rfl)
    | ((with_reducible apply lm_sAA); exact rfl; first | exact rfl | exact lm_roO (by omega) | exact lm_roM (by omega))
    | ((with_reducible apply lm_sI); exact lm_fpL (by omega))
    | ((with_reducible apply lm_sR); exact lm_fpB (by omega))
    | ((with_reducible apply lm_sP); exact lm_fpL (by omega); exact rfl)
    | ((with_reducible apply lm_sS); exact lm_ocO (by omega); exact rfl)
    | ((with_reducible apply lm_sA); exact rfl; omega)
    | ((with_reducible apply lm_sJ); exact rfl; omega)
    | ((with_reducible apply lm_sB); (first | exact rfl | exact lm_arB (by omega) | exact lm_arM (by omega)); omega)
    | ((with_reducible apply lm_wA); exact rfl; omega)
    | ((with_reducible apply lm_wJ); exact rfl; omega)
    | ((with_reducible apply lm_wB); (first | exact rfl | exact lm_arB (by omega) | exact lm_arM (by omega)); omega)
    | ((with_reducible apply lm_sAl); (first | exact rfl | exact lm_arB (by omega) | exact lm_arM (by omega)); omega)
    | ((with_reducible apply lm_iW); decide))
        simp only [Nat.reduceDiv, Nat.reduceMod, f.2.2.1]
        by_cases c4 : (0 : Int32) ≤ x4 ∧ x4 ≤ Int32.ofNat (lm_sh s)
        · refine lm_cI (lm_t52t (d := d) c4) ?_
          refine lm_iF (show ¬ (1 : Int32) = 0 by decide) ?_
          repeat (first
    | ((with_reducible apply lm_sI); exact rfl)
    | ((with_reducible apply lm_sR); exact rfl)
    | ((with_reducible apply lm_sS); exact rfl; exact rfl)
    | ((with_reducible apply lm_sL); exact rfl)
    | ((with_reducible apply lm_sP); exact rfl; exact rfl)
    | ((with_reducible apply lm_sPL); exact rfl; exact rfl)
    | ((with_reducible apply lm_sAA); exact rfl; first | exact rfl | exact lm_roO (by omega) | exact lm_roM (by omega))
    | ((with_reducible apply lm_sI); exact lm_fpL (by omega))
    | ((with_reducible apply lm_sR); exact lm_fpB (by omega))
    | ((with_reducible apply lm_sP); exact lm_fpL (by omega); exact rfl)
    | ((with_reducible apply lm_sS); exact lm_ocO (by omega); exact rfl)
    | ((with_reducible apply lm_sA); exact rfl; omega)
    | ((with_reducible apply lm_sJ); exact rfl; omega)
    | ((with_reducible apply lm_sB); (first | exact rfl | exact lm_arB (by omega) | exact lm_arM (by omega)); omega)
    | ((with_reducible apply lm_wA); exact rfl; omega)
    | ((with_reducible apply lm_wJ); exact rfl; omega)
    | ((with_reducible apply lm_wB); (first | exact rfl | exact lm_arB (by omega) | exact lm_arM (by omega)); omega)
    | ((with_reducible apply lm_sAl); (first | exact rfl | exact lm_arB (by omega) | exact lm_arM (by omega)); omega)
    | ((with_reducible apply lm_iW); decide))
          simp only [Nat.reduceDiv, Nat.reduceMod, f.2.2.1]
          refine lm_cI (lm_t52g (d := d) (b := lm_nI5 s x4) (fun g => nok ⟨c2, c3, c4, g⟩)) ?_
          exact lm_iT (show (0 : Int32) = 0 by decide) bad
        · refine lm_cI (lm_t52g (d := d) c4) ?_
          exact lm_iT (show (0 : Int32) = 0 by decide) bad
      · exact lm_iT (show x3 < 0 from Int32.not_le.mp c3) bad
    · refine lm_cI (lm_t52g (d := d) c2) ?_
      exact lm_iT (show (0 : Int32) = 0 by decide) bad
theorem lm_st18f (h : lm_Fre m) : lm_Stp (lm_sc xs) 39 40 [.int v, .int x2, .int x3, .int x4, .int x5] m n x := by
  intro r hr
  have hx := lm_rm_room hr
  rcases lm_range v (n := 11) (by omega) with ⟨s, hs, e⟩ | e
  · subst e
    obtain ⟨m1, f1, a1, b1⟩ := lm_u122b (xs := xs) (d := 596) (n := n) (x2 := x2) (x3 := x3) (x4 := x4) (x5 := x5) h hs hx
    by_cases c : lm_nOk s x2 x3 x4 x5
    · obtain ⟨m2, f2, a2, b2⟩ := lm_u40b (sc := lm_sc xs) (d := 598) (m := m1) (n := n) (x := lm_xx 16 x) (s := s) (x2 := x2) (x3 := x3) (x4 := x4) (x5 := x5) (fun i hi => by rw [f1.2.2.2 214 (by decide) (by decide)]; exact (h.2.2 i hi).2) hs
      obtain ⟨t1, t2⟩ := h.tie.slh (n := n) f1 f2 rfl
      exact ⟨2, 0, _, _, _, _, _, lm_v39_16 hx (a1 c), a2 c, lm_u_eq, fun h => absurd h (by decide), t1, t2, lm_rm_xx hr⟩
    · obtain ⟨m2, f2, a2, b2⟩ := lm_u40b (sc := lm_sc xs) (d := 598) (m := m1) (n := n) (x := lm_xx 13 x) (s := s) (x2 := x2) (x3 := x3) (x4 := x4) (x5 := x5) (fun i hi => by rw [f1.2.2.2 214 (by decide) (by decide)]; exact (h.2.2 i hi).2) hs
      obtain ⟨t1, t2⟩ := h.tie.slh (n := n) f1 f2 rfl
      exact ⟨1, 0, _, _, _, _, _, lm_v39_13 hx (b1 c), b2 c, lm_u_eq, fun h => absurd h (by decide), t1, t2, lm_rm_xx hr⟩
  · exact ⟨1, 0, _, _, _, _, _, lm_v39_13 hx (lm_u122a (d := 596) e hx), lm_u40a (d := 598) e, lm_u_eq, fun h => absurd h (by decide), h.tie.cod, lm_kpc, lm_rm_xx hr⟩
end LMSN
