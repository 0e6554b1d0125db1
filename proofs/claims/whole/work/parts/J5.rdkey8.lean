/-! ===== dsaKeys of the reference, whole ===== -/
section LMRP
variable {sc : lm_H} {C : lm_CX} {d s : Nat} {m : lm_MI} {n : lm_ML} {x : lm_H × Nat × Nat} {K E : Nat → Int32}
theorem lm_dm2_q (i : Nat) (hi : i < 512) : lm_dm2 m s 268 i = Int32.ofInt (lm_qk i) := by
  unfold lm_dm2 lm_qk
  rw [lm_fl_in (by omega), lm_oN]
theorem lm_dm2_f {j : Nat} (h : j ≠ 32) (h2 : j < 42 ∨ 49 < j) : lm_dm2 m s 203 j = m 203 j := by
  unfold lm_dm2
  rw [lm_fl_row (by decide), lm_u_ne (by omega), lm_u_ne (by omega), lm_u_ne (by omega), lm_u_ne (by omega), lm_u_ne (by omega), lm_u_ne (by omega), lm_u_ne (by omega), lm_u_ne (by omega), lm_u_ne (by omega)]
theorem lm_dm2_RD (hC : lm_cx m n = C) : lm_RD C s (lm_dm2 m s) n := by
  refine ⟨?_, ?_, ?_, ?_, fun i hi => lm_dm2_q i hi⟩
  · rw [← hC]
    unfold lm_cx lm_tb
    rw [lm_dm2_row (by decide) (by decide)]
  · unfold lm_dm2; rw [lm_fl_row (by decide)]; simp [lm_rd]
  · unfold lm_dm2; rw [lm_fl_row (by decide)]; simp [lm_rd]
  · unfold lm_dm2; rw [lm_fl_row (by decide)]; simp [lm_rd]
/-- what it sets and hashes first -/
theorem lm_l28i (hC : lm_cx m n = C) (hs : s ≤ 2) (h32 : m 214 0 = Int32.ofNat 32) : ∃ m' n', lm_RD C s m' n' ∧ m' 203 4 = 0 ∧ (∀ i, i < 128 → m' 263 i = lm_xE C (m 206) s i) ∧ (∀ r, r ≠ 203 → r ≠ 227 → r ≠ 263 → r ≠ 268 → m' r = m r) ∧ (∀ j, j ≠ 4 → j ≠ 18 → j ≠ 19 → j ≠ 20 → j ≠ 32 → (j < 42 ∨ 49 < j) → m' 203 j = m 203 j) ∧ (∀ q, q ≠ 203 → q ≠ 223 → q ≠ 224 → q ≠ 225 → q ≠ 226 → q ≠ 230 → n' q = n q) ∧ ∀ R, lm_rn sc (d + 6) lm_m28.2.2.2.2.1 (lm_reg lm_m28.2.2.2.2.2) (96, [(0, .ref 203), (2, .int (Int32.ofInt 1)), (3, .int (Int32.ofNat 0))], []) (lm_w m' n' x) = some R → lm_cal sc (d + 7) 28 [.ref 203, .int (Int32.ofNat s)] (lm_w m n x) = some R := by
  have c1 := lm_u86 (sc := sc) (d := d + 5) (m := lm_u m 203 4 0) (n := n) (x := x) hs
  have C0 : lm_cx (lm_u m 203 4 0) n = C := by
    rw [← hC]
    unfold lm_cx lm_tb
    rw [lm_u_row (by decide)]
  have D1 := lm_dm2_RD (s := s) C0
  have a1 : ∀ r, r ≠ 203 → r ≠ 268 → lm_dm2 (lm_u m 203 4 0) s r = m r := fun r r1 r2 => by rw [lm_dm2_row r1 r2, lm_u_row r1]
  have a2 : ∀ j, j ≠ 4 → j ≠ 32 → (j < 42 ∨ 49 < j) → lm_dm2 (lm_u m 203 4 0) s 203 j = m 203 j := fun j j1 j2 j3 => by rw [lm_dm2_f j2 j3, lm_u_ne (fun g => j1 g.2)]
  have a4 : lm_dm2 (lm_u m 203 4 0) s 203 4 = 0 := by rw [lm_dm2_f (by decide) (by decide), lm_u_eq]
  generalize lm_dm2 (lm_u m 203 4 0) s = m1 at c1 D1 a1 a2 a4
  have e206 : m1 206 = m 206 := a1 206 (by decide) (by decide)
  obtain ⟨m2, n2, c2, s2, f2⟩ := lm_rS (sc := sc) (d := d + 4) (x := x) (k := 12) (G := ln_gs (m 206) 0 (Int32.ofNat (lm_dk s)) (Int32.ofNat (lm_dl s))) D1.1 (by decide) (by decide)
  have C2 := f2.cx.trans D1.1
  obtain ⟨m3, n3, c3, s3, f3⟩ := lm_rA (sc := sc) (d := d + 2) (x := x) (k := 12) (q := 206) (v := 65536) (a := 0) (l := 32) (L := 0) (G := ln_gs (m 206) 0 (Int32.ofNat (lm_dk s)) (Int32.ofNat (lm_dl s))) C2 (by decide) (by decide) rfl (by decide) (by decide) (fun t ht => by
    rw [f2.1 206 (by decide) (by decide), e206, ln_gs, if_pos (by omega), Nat.zero_add, Nat.zero_add]) s2
  have C3 := f3.cx.trans C2
  have k3 : m3 203 32 = Int32.ofNat (lm_dk s) := by
    rw [f3.2.1 32 (by decide) (by decide) (by decide), f2.2.1 32 (by decide) (by decide) (by decide)]
    exact D1.2.1
  obtain ⟨m4, n4, c4, s4, f4⟩ := lm_rB (sc := sc) (d := d + 3) (x := x) (k := 12) (w := Int32.ofNat (lm_dk s)) (L := 0 + 32) (G := ln_gs (m 206) 0 (Int32.ofNat (lm_dk s)) (Int32.ofNat (lm_dl s))) C3 (by decide) (by rw [ln_gs, if_neg (by decide), if_pos (by decide)]) s3
  have C4 := f4.cx.trans C3
  have k4 : m4 203 42 = Int32.ofNat (lm_dl s) := by
    rw [f4.2.1 42 (by decide) (by decide) (by decide), f3.2.1 42 (by decide) (by decide) (by decide), f2.2.1 42 (by decide) (by decide) (by decide)]
    exact D1.2.2.1
  obtain ⟨m5, n5, c5, s5, f5⟩ := lm_rB (sc := sc) (d := d + 3) (x := x) (k := 12) (w := Int32.ofNat (lm_dl s)) (L := 0 + 32 + 1) (G := ln_gs (m 206) 0 (Int32.ofNat (lm_dk s)) (Int32.ofNat (lm_dl s))) C4 (by decide) (by rw [ln_gs, if_neg (by decide), if_neg (by decide)]) s4
  have C5 := f5.cx.trans C4
  obtain ⟨m6, n6, c6, f6⟩ := lm_rG (sc := sc) (d := d + 1) (x := x) (k := 12) (q := 263) (v := 256) (a := 0) (l := 128) C5 (by decide) (by decide) rfl (by decide) (by decide) (fun h => absurd h (by decide)) s5
  have fh : lm_fh m1 n m6 n6 := f2.tr (f3.tr (f4.tr (f5.tr f6)))
  generalize eM : lm_fil m6 263 0 (0 + 128) (fun i => lm_Hm C 12 (ln_gs (m 206) 0 (Int32.ofNat (lm_dk s)) (Int32.ofNat (lm_dl s))) (0 + 32 + 1 + 1) (i - 0)) = M at c6
  have rM : ∀ r, r ≠ 263 → M r = m6 r := fun r hr => by rw [← eM, lm_fl_row hr]
  have f203 : ∀ j, j ≠ 18 → j ≠ 19 → j ≠ 20 → M 203 j = m1 203 j := fun j j1 j2 j3 => by rw [rM 203 (by decide), fh.2.1 j j1 j2 j3]
  have B : lm_fB m1 n M n6 := ⟨fun j j1 j2 j3 _ => f203 j j1 j2 j3, fun q q1 q2 q3 q4 q5 _ => fh.2.2 q q1 q2 q3 q4 q5⟩
  refine ⟨M, n6, D1.keep B (by rw [rM 221 (by decide), fh.1 221 (by decide) (by decide)]) (by rw [rM 268 (by decide), fh.1 268 (by decide) (by decide)]), ?_, fun i hi => ?_, fun r r1 r2 r3 r4 => by rw [rM r r3, fh.1 r r1 r2, a1 r r1 r4], fun j j1 j2 j3 j4 j5 j6 => by rw [f203 j j2 j3 j4, a2 j j1 j5 j6], B.2, fun R K => ?_⟩
  · rw [f203 4 (by decide) (by decide) (by decide), a4]
  · rw [← eM, lm_fl_in (by omega), Nat.sub_zero]
    unfold lm_xE
    rfl
  · refine lm_cal_of (Y := lm_m28) rfl rfl (lm_e28_0 ?_)
    unfold lm_q28_0
    refine lm_cI (lm_t52n (i := s) (d := d + 5) (n := 2) hs (by omega)) ?_
    repeat (first
    | ((with_reducible apply lm_sI); exact rfl)
    | ((with_reducible apply lm_sR); exact rfl)
    | ((with_reducible apply lm_sS); exact rfl; exact rfl)
    | ((with_reducible apply lm_sL); exact rfl)
    | ((with_reducible apply lm_sP); exact rfl; exact rfl)
    | ((with_reducible apply lm_sPL); exact rfl; exact rfl)
    | ((with_reducible apply lm_sAA); exact rfl; first | exact rfl | exact lm_roO (by omega) | exact lm_roM (by omega))
    | ((with_reducible apply lm_sI); exact lm_fpL (by omega))
    | ((with_reducible apply lm_sR); exact lm_fpB (by omega))
    | ((with_reducible apply lm_sP); exact lm_fpL (by omega); exact rfl)
    | ((with_reducible apply lm_sS); exact lm_ocO (by omega); exact rfl)
    | ((with_reducible apply lm_sA); exact rfl; omega)
    | ((with_reducible apply lm_sJ); exact rfl; omega)
    | ((with_reducible apply lm_sB); (first | exact rfl | exact lm_arB (by omega) | exact lm_arM (by omega)); omega)
    | ((with_reducible apply lm_wA); exact rfl; omega)
    | ((with_reducible apply lm_wJ); exact rfl; omega)
    | ((with_reducible apply lm_wB); (first | exact rfl | exact lm_arB (by omega) | exact lm_arM (by omega)); omega)
    | ((with_reducible apply lm_sAl); (first | exact rfl | exact lm_arB (by omega) | exact lm_arM (by omega)); omega)
    | ((with_reducible apply lm_iW); decide))
    refine lm_cI (lm_u49 (d := d + 5) true) ?_
    refine lm_iF (show ¬ (1 : Int32) = 0 by decide) ?_
    rw [lm_K0, lm_K32]
    repeat (first
    | ((with_reducible apply lm_sI); exact rfl)
    | ((with_reducible apply lm_sR); exact rfl)
    | ((with_reducible apply lm_sS); exact rfl; exact rfl)
    | ((with_reducible apply lm_sL); exact rfl)
    | ((with_reducible apply lm_sP); exact rfl; exact rfl)
    | ((with_reducible apply lm_sPL); exact rfl; exact rfl)
    | ((with_reducible apply lm_sAA); exact rfl; first | exact rfl | exact lm_roO (by omega) | exact lm_roM (by omega))
    | ((with_reducible apply lm_sI); exact lm_fpL (by omega))
    | ((with_reducible apply lm_sR); exact lm_fpB (by omega))
    | ((with_reducible apply lm_sP); exact lm_fpL (by omega); exact rfl)
    | ((with_reducible apply lm_sS); exact lm_ocO (by omega); exact rfl)
    | ((with_reducible apply lm_sA); exact rfl; omega)
    | ((with_reducible apply lm_sJ); exact rfl; omega)
    | ((with_reducible apply lm_sB); (first | exact rfl | exact lm_arB (by omega) | exact lm_arM (by omega)); omega)
    | ((with_reducible apply lm_wA); exact rfl; omega)
    | ((with_reducible apply lm_wJ); exact rfl; omega)
    | ((with_reducible apply lm_wB); (first | exact rfl | exact lm_arB (by omega) | exact lm_arM (by omega)); omega)
    | ((with_reducible apply lm_sAl); (first | exact rfl | exact lm_arB (by omega) | exact lm_arM (by omega)); omega)
    | ((with_reducible apply lm_iW); decide))
    rw [show lm_u m 203 4 (cond true 0 (Int32.ofInt 1)) 214 0 = Int32.ofNat 32 by rw [lm_u_row (by decide), h32]]
    refine lm_neF (by omega) (by omega) (by decide) ?_
    refine lm_e28_31 ?_
    unfold lm_q28_31
    repeat (first
    | ((with_reducible apply lm_sI); exact rfl)
    | ((with_reducible apply lm_sR); exact rfl)
    | ((with_reducible apply lm_sS); exact rfl; exact rfl)
    | ((with_reducible apply lm_sL); exact rfl)
    | ((with_reducible apply lm_sP); exact rfl; exact rfl)
    | ((with_reducible apply lm_sPL); exact rfl; exact rfl)
    | ((with_reducible apply lm_sAA); exact rfl; first | exact rfl | exact lm_roO (by omega) | exact lm_roM (by omega))
    | ((with_reducible apply lm_sI); exact lm_fpL (by omega))
    | ((with_reducible apply lm_sR); exact lm_fpB (by omega))
    | ((with_reducible apply lm_sP); exact lm_fpL (by omega); exact rfl)
    | ((with_reducible apply lm_sS); exact lm_ocO (by omega); exact rfl)
    | ((with_reducible apply lm_sA); exact rfl; omega)
    | ((with_reducible apply lm_sJ); exact rfl; omega)
    | ((with_reducible apply lm_sB); (first | exact rfl | exact lm_arB (by omega) | exact lm_arM (by omega)); omega)
    | ((with_reducible apply lm_wA); exact rfl; omega)
    | ((with_reducible apply lm_wJ); exact rfl; omega)
    | ((with_reducible apply lm_wB); (first | exact rfl | exact lm_arB (by omega) | exact lm_arM (by omega)); omega)
    | ((with_reducible apply lm_sAl); (first | exact rfl | exact lm_arB (by omega) | exact lm_arM (by omega)); omega)
    | ((with_reducible apply lm_iW); decide))
    refine lm_cI (lm_u49 (d := d + 5) true) ?_
    refine lm_iT (show ¬ (1 : Int32) = 0 by decide) ?_
    rw [lm_uu]
    repeat (first
    | ((with_reducible apply lm_sI); exact rfl)
    | ((with_reducible apply lm_sR); exact rfl)
    | ((with_reducible apply lm_sS); exact rfl; exact rfl)
    | ((with_reducible apply lm_sL); exact rfl)
    | ((with_reducible apply lm_sP); exact rfl; exact rfl)
    | ((with_reducible apply lm_sPL); exact rfl; exact rfl)
    | ((with_reducible apply lm_sAA); exact rfl; first | exact rfl | exact lm_roO (by omega) | exact lm_roM (by omega))
    | ((with_reducible apply lm_sI); exact lm_fpL (by omega))
    | ((with_reducible apply lm_sR); exact lm_fpB (by omega))
    | ((with_reducible apply lm_sP); exact lm_fpL (by omega); exact rfl)
    | ((with_reducible apply lm_sS); exact lm_ocO (by omega); exact rfl)
    | ((with_reducible apply lm_sA); exact rfl; omega)
    | ((with_reducible apply lm_sJ); exact rfl; omega)
    | ((with_reducible apply lm_sB); (first | exact rfl | exact lm_arB (by omega) | exact lm_arM (by omega)); omega)
    | ((with_reducible apply lm_wA); exact rfl; omega)
    | ((with_reducible apply lm_wJ); exact rfl; omega)
    | ((with_reducible apply lm_wB); (first | exact rfl | exact lm_arB (by omega) | exact lm_arM (by omega)); omega)
    | ((with_reducible apply lm_sAl); (first | exact rfl | exact lm_arB (by omega) | exact lm_arM (by omega)); omega)
    | ((with_reducible apply lm_iW); decide))
    refine lm_cV c1 ?_
    rw [lm_K12, lm_K0, lm_K32, lm_K128]
    repeat (first
    | ((with_reducible apply lm_sI); exact rfl)
    | ((with_reducible apply lm_sR); exact rfl)
    | ((with_reducible apply lm_sS); exact rfl; exact rfl)
    | ((with_reducible apply lm_sL); exact rfl)
    | ((with_reducible apply lm_sP); exact rfl; exact rfl)
    | ((with_reducible apply lm_sPL); exact rfl; exact rfl)
    | ((with_reducible apply lm_sAA); exact rfl; first | exact rfl | exact lm_roO (by omega) | exact lm_roM (by omega))
    | ((with_reducible apply lm_sI); exact lm_fpL (by omega))
    | ((with_reducible apply lm_sR); exact lm_fpB (by omega))
    | ((with_reducible apply lm_sP); exact lm_fpL (by omega); exact rfl)
    | ((with_reducible apply lm_sS); exact lm_ocO (by omega); exact rfl)
    | ((with_reducible apply lm_sA); exact rfl; omega)
    | ((with_reducible apply lm_sJ); exact rfl; omega)
    | ((with_reducible apply lm_sB); (first | exact rfl | exact lm_arB (by omega) | exact lm_arM (by omega)); omega)
    | ((with_reducible apply lm_wA); exact rfl; omega)
    | ((with_reducible apply lm_wJ); exact rfl; omega)
    | ((with_reducible apply lm_wB); (first | exact rfl | exact lm_arB (by omega) | exact lm_arM (by omega)); omega)
    | ((with_reducible apply lm_sAl); (first | exact rfl | exact lm_arB (by omega) | exact lm_arM (by omega)); omega)
    | ((with_reducible apply lm_iW); decide))
    refine lm_cV c2 ?_
    repeat (first
    | ((with_reducible apply lm_sI); exact rfl)
    | ((with_reducible apply lm_sR); exact rfl)
    | ((with_reducible apply lm_sS); exact rfl; exact rfl)
    | ((with_reducible apply lm_sL); exact rfl)
    | ((with_reducible apply lm_sP); exact rfl; exact rfl)
    | ((with_reducible apply lm_sPL); exact rfl; exact rfl)
    | ((with_reducible apply lm_sAA); exact rfl; first | exact rfl | exact lm_roO (by omega) | exact lm_roM (by omega))
    | ((with_reducible apply lm_sI); exact lm_fpL (by omega))
    | ((with_reducible apply lm_sR); exact lm_fpB (by omega))
    | ((with_reducible apply lm_sP); exact lm_fpL (by omega); exact rfl)
    | ((with_reducible apply lm_sS); exact lm_ocO (by omega); exact rfl)
    | ((with_reducible apply lm_sA); exact rfl; omega)
    | ((with_reducible apply lm_sJ); exact rfl; omega)
    | ((with_reducible apply lm_sB); (first | exact rfl | exact lm_arB (by omega) | exact lm_arM (by omega)); omega)
    | ((with_reducible apply lm_wA); exact rfl; omega)
    | ((with_reducible apply lm_wJ); exact rfl; omega)
    | ((with_reducible apply lm_wB); (first | exact rfl | exact lm_arB (by omega) | exact lm_arM (by omega)); omega)
    | ((with_reducible apply lm_sAl); (first | exact rfl | exact lm_arB (by omega) | exact lm_arM (by omega)); omega)
    | ((with_reducible apply lm_iW); decide))
    refine lm_cV c3 ?_
    repeat (first
    | ((with_reducible apply lm_sI); exact rfl)
    | ((with_reducible apply lm_sR); exact rfl)
    | ((with_reducible apply lm_sS); exact rfl; exact rfl)
    | ((with_reducible apply lm_sL); exact rfl)
    | ((with_reducible apply lm_sP); exact rfl; exact rfl)
    | ((with_reducible apply lm_sPL); exact rfl; exact rfl)
    | ((with_reducible apply lm_sAA); exact rfl; first | exact rfl | exact lm_roO (by omega) | exact lm_roM (by omega))
    | ((with_reducible apply lm_sI); exact lm_fpL (by omega))
    | ((with_reducible apply lm_sR); exact lm_fpB (by omega))
    | ((with_reducible apply lm_sP); exact lm_fpL (by omega); exact rfl)
    | ((with_reducible apply lm_sS); exact lm_ocO (by omega); exact rfl)
    | ((with_reducible apply lm_sA); exact rfl; omega)
    | ((with_reducible apply lm_sJ); exact rfl; omega)
    | ((with_reducible apply lm_sB); (first | exact rfl | exact lm_arB (by omega) | exact lm_arM (by omega)); omega)
    | ((with_reducible apply lm_wA); exact rfl; omega)
    | ((with_reducible apply lm_wJ); exact rfl; omega)
    | ((with_reducible apply lm_wB); (first | exact rfl | exact lm_arB (by omega) | exact lm_arM (by omega)); omega)
    | ((with_reducible apply lm_sAl); (first | exact rfl | exact lm_arB (by omega) | exact lm_arM (by omega)); omega)
    | ((with_reducible apply lm_iW); decide))
    simp only [Nat.reduceDiv, Nat.reduceMod]
    rw [k3]
    refine lm_cV c4 ?_
    repeat (first
    | ((with_reducible apply lm_sI); exact rfl)
    | ((with_reducible apply lm_sR); exact rfl)
    | ((with_reducible apply lm_sS); exact rfl; exact rfl)
    | ((with_reducible apply lm_sL); exact rfl)
    | ((with_reducible apply lm_sP); exact rfl; exact rfl)
    | ((with_reducible apply lm_sPL); exact rfl; exact rfl)
    | ((with_reducible apply lm_sAA); exact rfl; first | exact rfl | exact lm_roO (by omega) | exact lm_roM (by omega))
    | ((with_reducible apply lm_sI); exact lm_fpL (by omega))
    | ((with_reducible apply lm_sR); exact lm_fpB (by omega))
    | ((with_reducible apply lm_sP); exact lm_fpL (by omega); exact rfl)
    | ((with_reducible apply lm_sS); exact lm_ocO (by omega); exact rfl)
    | ((with_reducible apply lm_sA); exact rfl; omega)
    | ((with_reducible apply lm_sJ); exact rfl; omega)
    | ((with_reducible apply lm_sB); (first | exact rfl | exact lm_arB (by omega) | exact lm_arM (by omega)); omega)
    | ((with_reducible apply lm_wA); exact rfl; omega)
    | ((with_reducible apply lm_wJ); exact rfl; omega)
    | ((with_reducible apply lm_wB); (first | exact rfl | exact lm_arB (by omega) | exact lm_arM (by omega)); omega)
    | ((with_reducible apply lm_sAl); (first | exact rfl | exact lm_arB (by omega) | exact lm_arM (by omega)); omega)
    | ((with_reducible apply lm_iW); decide))
    simp only [Nat.reduceDiv, Nat.reduceMod]
    rw [k4]
    refine lm_cV c5 ?_
    repeat (first
    | ((with_reducible apply lm_sI); exact rfl)
    | ((with_reducible apply lm_sR); exact rfl)
    | ((with_reducible apply lm_sS); exact rfl; exact rfl)
    | ((with_reducible apply lm_sL); exact rfl)
    | ((with_reducible apply lm_sP); exact rfl; exact rfl)
    | ((with_reducible apply lm_sPL); exact rfl; exact rfl)
    | ((with_reducible apply lm_sAA); exact rfl; first | exact rfl | exact lm_roO (by omega) | exact lm_roM (by omega))
    | ((with_reducible apply lm_sI); exact lm_fpL (by omega))
    | ((with_reducible apply lm_sR); exact lm_fpB (by omega))
    | ((with_reducible apply lm_sP); exact lm_fpL (by omega); exact rfl)
    | ((with_reducible apply lm_sS); exact lm_ocO (by omega); exact rfl)
    | ((with_reducible apply lm_sA); exact rfl; omega)
    | ((with_reducible apply lm_sJ); exact rfl; omega)
    | ((with_reducible apply lm_sB); (first | exact rfl | exact lm_arB (by omega) | exact lm_arM (by omega)); omega)
    | ((with_reducible apply lm_wA); exact rfl; omega)
    | ((with_reducible apply lm_wJ); exact rfl; omega)
    | ((with_reducible apply lm_wB); (first | exact rfl | exact lm_arB (by omega) | exact lm_arM (by omega)); omega)
    | ((with_reducible apply lm_sAl); (first | exact rfl | exact lm_arB (by omega) | exact lm_arM (by omega)); omega)
    | ((with_reducible apply lm_iW); decide))
    refine lm_cV c6 ?_
    exact K
/-! seeds that are alike -/
theorem lm_xAm_ext (h : ∀ i, i < 128 → lm_b8 (K i) = lm_b8 (E i)) : lm_xAm C K = lm_xAm C E := by
  funext i t c
  rw [lm_xAm_e, lm_xAm_e, lm_xA_ext (K := K) (K' := E) (a := 0) (a' := 0) (fun i hi => by rw [Nat.zero_add]; exact h i (by omega))]
theorem lm_xV_ext (h : ∀ i, i < 128 → lm_b8 (K i) = lm_b8 (E i)) : lm_xV C K s = lm_xV C E s := by
  funext t c
  rw [lm_xV_e, lm_xV_e, lm_xS_ext (fun i hi => h (32 + i) (by omega))]
theorem lm_xR_ext (h : ∀ i, i < 128 → lm_b8 (K i) = lm_b8 (E i)) : lm_xR C K s = lm_xR C E s := by
  funext i c
  rw [lm_xR_e, lm_xR_e, lm_xAm_ext h, lm_xV_ext h]
theorem lm_xok_ext (h : ∀ i, i < 128 → lm_b8 (K i) = lm_b8 (E i)) (g : lm_xok C K s) : lm_xok C E s := by
  refine ⟨fun i j hi hj => ?_, fun t ht => ?_⟩
  · rw [← lm_xA_ext (a := 0) (K := K) (fun i hi => by rw [Nat.zero_add]; exact h i (by omega))]
    exact g.1 i j hi hj
  · rw [← lm_xS_ext (K := K) (fun i hi => h (32 + i) (by omega))]
    exact g.2 t ht
theorem lm_xb8 (hs : s ≤ 2) : lm_xb s * (256 * (lm_dl s + lm_dk s)) = 8 * (32 * lm_xb s * (lm_dl s + lm_dk s)) ∧ lm_xb s * (256 * (lm_dl s + lm_dk s)) ≤ 15360 := by
  have h := lm_xb_b s
  have hkl := lm_dkl hs
  have c : lm_xb s = 3 ∨ lm_xb s = 4 := by omega
  rcases c with c | c <;> rw [c] <;> omega
/-- the secret's packs -/
def lm_xS2 (C : lm_CX) (K : Nat → Int32) (s t : Nat) : Bool := if t < lm_xb s * (256 * (lm_dl s + lm_dk s)) then lm_ts (lm_Fg (fun t c => (lm_de s : Int) - lm_xV C K s t c)) (lm_xb s) t else lm_ts (lm_Fg (fun i c => 4096 - lm_tL (lm_xR C K s i c))) 13 (t - lm_xb s * (256 * (lm_dl s + lm_dk s)))
theorem lm_xS2_b (hs : s ≤ 2) {j : Nat} : ln_bv (lm_xS2 C K s) (8 * j) 8 = lm_xsec C K s (128 + j) := by
  have h8 := lm_xb8 hs
  have hb := lm_xb_b s
  have e1 : lm_xb1 s = 128 + 32 * lm_xb s * (lm_dl s + lm_dk s) := by unfold lm_xb1; rfl
  unfold lm_xsec
  rw [if_neg (by omega), if_neg (by omega), if_neg (by omega)]
  by_cases c : 128 + j < lm_xb1 s
  · rw [if_pos c, show 128 + j - 128 = j by omega, ← lm_pkB_g (by omega)]
    refine lm_bv_ext fun t ht => ?_
    unfold lm_xS2
    rw [if_pos (by omega)]
  · rw [if_neg c, ← lm_pkB_g (by omega)]
    refine lm_bv_ext fun t ht => ?_
    unfold lm_xS2
    rw [if_neg (by omega), show 8 * j + t - lm_xb s * (256 * (lm_dl s + lm_dk s)) = 8 * (128 + j - lm_xb1 s) + t by omega]
end LMRP
