/-! ===== digest, MGF1, of the class ===== -/
def lm_gv2 (m : lm_MI) (n : lm_ML) (b q l : Nat) (i : Nat) : Int32 := lm_mg (lm_tb m n) b (lm_hps (lm_tb m n) b (lm_rate b) (fun i => lm_b8 (m q i)) l 0 (lm_h0 m n b)) i
section LMD5
variable {xs : List Int32} {d w l : Nat} {m : lm_MI} {n : lm_ML} {x : lm_H × Nat × Nat}
theorem lm_u59g15 (hc : lm_Con m n) (hw : w ≤ 65536) (hm : m 32 1 = Int32.ofNat l) (hl : l ≤ 65536) : ∃ m1 n1, lm_cal (lm_sc xs) (d + 6) 59 [.ref 0, .int (Int32.ofNat 15), .int (Int32.ofNat w)] (lm_w m n x) = some (.ok (some (.int (Int32.ofNat w))), lm_w m1 n1 x) ∧ (∀ i, i < w → m1 39 i = lm_gv2 m n 1 33 l i) ∧ lm_fq 39 (lm_u m 38 1 (Int32.ofNat w)) n m1 n1 := by
  have hT := hc.tok xs
  have hI := hc.iok
  obtain ⟨_, _, _, _, _, _, _, _, g11, g17⟩ := hc
  obtain ⟨m2, n2, e2, C2, f2⟩ := lm_cstt (xs := xs) (d := d + 2) (x := x) (k := 1) (m := lm_u m 38 1 (Int32.ofNat w)) (n := n) (by decide) (by decide) (by rw [lm_u_row (by decide)]; exact g11) (by rw [lm_u_row (by decide)]; exact g17) hI (J := n 223) (b := m 227)
  have e33 : m2 33 = m 33 := by rw [f2.1 33 (by omega), lm_u_row (by decide)]
  obtain ⟨m3, n3, e3, C3, f3⟩ := lm_cadd (xs := xs) (d := d + 1) (x := x) (q := 33) (v := 65536) (a := 0) (l := l) hT (by decide) (by decide) (by omega) rfl (by omega) (by omega) (show (0 : Nat) < lm_rate 1 by decide) C2
  rw [e33] at C3
  have f3C := f3.C (by decide) (by decide)
  unfold lm_CS at C3
  rw [if_pos (by decide)] at C3
  obtain ⟨m4, n4, e4, K4, f4⟩ := lm_u142_11 (xs := xs) (d := d) (x := x) (T := lm_tb m n) (q := 39) (v := 65536) (L := w) hT (by omega) rfl hw (by decide) (lm_hps_f (r := 64) _ _ _ (show (0 : Nat) < 64 by decide)) C3.1 C3.2
  refine ⟨m4, n4, ?_, K4, (f2.q.tr f3C.q).tr f4⟩
  have e38 : m4 38 1 = Int32.ofNat w := by rw [f4.1 38 (by decide) (by omega), f3C.1 38 (by omega), f2.1 38 (by omega), lm_u_eq]
  refine lm_cal_of (Y := lm_m59) rfl rfl (lm_e59_0 ?_)
  unfold lm_q59_0
  refine lm_cV (lm_t132 (d := d + 4) (by decide) (by decide)) ?_
  refine lm_cV (lm_t132n (i := w) (n := 65536) (d := d + 4) hw (by decide)) ?_
  have eb : lm_cal (lm_sc xs) (d + 5) 137 [.int (Int32.ofNat 15)] (lm_w m n x) = some (.ok (some (.int (Int32.ofNat 1))), lm_w m n x) := by
    refine lm_cal_of (Y := lm_m137) rfl rfl (lm_e137_0 ?_)
    unfold lm_q137_0
    simp only [lm_K13, lm_K14, lm_K15, lm_K16]
    refine lm_eqF (by omega) (by omega) (by omega) ?_
    exact lm_neF (by omega) (by omega) (by omega) rfl
  refine lm_cI eb ?_
  rw [lm_K11, lm_K12, lm_K15]
  refine lm_eqF (by omega) (by omega) (by omega) ?_
  refine lm_eqF (by omega) (by omega) (by omega) ?_
  refine lm_ltF (by omega) (by omega) (by omega) ?_
  refine lm_e59_37 ?_
  unfold lm_q59_37
  refine lm_e59_42 ?_
  unfold lm_q59_42
  rw [lm_K13, lm_K14]
  refine lm_eqF (by omega) (by omega) (by omega) ?_
  refine lm_neT (by omega) (by omega) (by omega) ?_
  refine lm_e59_61 ?_
  unfold lm_q59_61
  rw [lm_K6, lm_K0]
  repeat (first
    | ((with_reducible apply lm_sI); exact rfl)
    | ((with_reducible apply lm_sR); exact rfl)
    | ((with_reducible apply lm_sS); exact rfl; exact rfl)
    | ((with_reducible apply lm_sL); exact rfl)
    | ((with_reducible apply lm_sP); exact rfl; exact rfl)
    | ((with_reducible apply lm_sPL); exact rfl; exact rfl)
    | ((with_reducible apply lm_sAA); exact rfl; first | exact rfl | exact lm_roO (by omega) | exact lm_roM (by omega))
    | ((with_reducible apply lm_sI); exact lm_fpL (by omega))
    | ((with_reducible apply lm_sR); exact lm_fpB (by omega))
    | ((with_reducible apply lm_sP); exact lm_fpL (by omega); exact rfl)
    | ((with_reducible apply lm_sS); exact lm_ocO (by omega); exact rfl)
    | ((with_reducible apply lm_sA); exact rfl; omega)
    | ((with_reducible apply lm_sJ); exact rfl; omega)
    | ((with_reducible apply lm_sB); (first | exact rfl | exact lm_arB (by omega) | exact lm_arM (by omega)); omega)
    | ((with_reducible apply lm_wA); exact rfl; omega)
    | ((with_reducible apply lm_wJ); exact rfl; omega)
    | ((with_reducible apply lm_wB); (first | exact rfl | exact lm_arB (by omega) | exact lm_arM (by omega)); omega)
    | ((with_reducible apply lm_sAl); (first | exact rfl | exact lm_arB (by omega) | exact lm_arM (by omega)); omega)
    | ((with_reducible apply lm_iW); decide))
  refine lm_iF (show ¬ Int32.ofInt 1 = 0 by decide) ?_
  refine lm_e59_96 ?_
  unfold lm_q59_96
  repeat (first
    | ((with_reducible apply lm_sI); exact rfl)
    | ((with_reducible apply lm_sR); exact rfl)
    | ((with_reducible apply lm_sS); exact rfl; exact rfl)
    | ((with_reducible apply lm_sL); exact rfl)
    | ((with_reducible apply lm_sP); exact rfl; exact rfl)
    | ((with_reducible apply lm_sPL); exact rfl; exact rfl)
    | ((with_reducible apply lm_sAA); exact rfl; first | exact rfl | exact lm_roO (by omega) | exact lm_roM (by omega))
    | ((with_reducible apply lm_sI); exact lm_fpL (by omega))
    | ((with_reducible apply lm_sR); exact lm_fpB (by omega))
    | ((with_reducible apply lm_sP); exact lm_fpL (by omega); exact rfl)
    | ((with_reducible apply lm_sS); exact lm_ocO (by omega); exact rfl)
    | ((with_reducible apply lm_sA); exact rfl; omega)
    | ((with_reducible apply lm_sJ); exact rfl; omega)
    | ((with_reducible apply lm_sB); (first | exact rfl | exact lm_arB (by omega) | exact lm_arM (by omega)); omega)
    | ((with_reducible apply lm_wA); exact rfl; omega)
    | ((with_reducible apply lm_wJ); exact rfl; omega)
    | ((with_reducible apply lm_wB); (first | exact rfl | exact lm_arB (by omega) | exact lm_arM (by omega)); omega)
    | ((with_reducible apply lm_sAl); (first | exact rfl | exact lm_arB (by omega) | exact lm_arM (by omega)); omega)
    | ((with_reducible apply lm_iW); decide))
  refine lm_iT (show Int32.ofNat 0 = 0 by decide) ?_
  repeat (first
    | ((with_reducible apply lm_sI); exact rfl)
    | ((with_reducible apply lm_sR); exact rfl)
    | ((with_reducible apply lm_sS); exact rfl; exact rfl)
    | ((with_reducible apply lm_sL); exact rfl)
    | ((with_reducible apply lm_sP); exact rfl; exact rfl)
    | ((with_reducible apply lm_sPL); exact rfl; exact rfl)
    | ((with_reducible apply lm_sAA); exact rfl; first | exact rfl | exact lm_roO (by omega) | exact lm_roM (by omega))
    | ((with_reducible apply lm_sI); exact lm_fpL (by omega))
    | ((with_reducible apply lm_sR); exact lm_fpB (by omega))
    | ((with_reducible apply lm_sP); exact lm_fpL (by omega); exact rfl)
    | ((with_reducible apply lm_sS); exact lm_ocO (by omega); exact rfl)
    | ((with_reducible apply lm_sA); exact rfl; omega)
    | ((with_reducible apply lm_sJ); exact rfl; omega)
    | ((with_reducible apply lm_sB); (first | exact rfl | exact lm_arB (by omega) | exact lm_arM (by omega)); omega)
    | ((with_reducible apply lm_wA); exact rfl; omega)
    | ((with_reducible apply lm_wJ); exact rfl; omega)
    | ((with_reducible apply lm_wB); (first | exact rfl | exact lm_arB (by omega) | exact lm_arM (by omega)); omega)
    | ((with_reducible apply lm_sAl); (first | exact rfl | exact lm_arB (by omega) | exact lm_arM (by omega)); omega)
    | ((with_reducible apply lm_iW); decide))
  refine lm_cR e2 ?_
  refine lm_e59_134 ?_
  unfold lm_q59_134
  rw [lm_K3, lm_K15]
  repeat (first
    | ((with_reducible apply lm_sI); exact rfl)
    | ((with_reducible apply lm_sR); exact rfl)
    | ((with_reducible apply lm_sS); exact rfl; exact rfl)
    | ((with_reducible apply lm_sL); exact rfl)
    | ((with_reducible apply lm_sP); exact rfl; exact rfl)
    | ((with_reducible apply lm_sPL); exact rfl; exact rfl)
    | ((with_reducible apply lm_sAA); exact rfl; first | exact rfl | exact lm_roO (by omega) | exact lm_roM (by omega))
    | ((with_reducible apply lm_sI); exact lm_fpL (by omega))
    | ((with_reducible apply lm_sR); exact lm_fpB (by omega))
    | ((with_reducible apply lm_sP); exact lm_fpL (by omega); exact rfl)
    | ((with_reducible apply lm_sS); exact lm_ocO (by omega); exact rfl)
    | ((with_reducible apply lm_sA); exact rfl; omega)
    | ((with_reducible apply lm_sJ); exact rfl; omega)
    | ((with_reducible apply lm_sB); (first | exact rfl | exact lm_arB (by omega) | exact lm_arM (by omega)); omega)
    | ((with_reducible apply lm_wA); exact rfl; omega)
    | ((with_reducible apply lm_wJ); exact rfl; omega)
    | ((with_reducible apply lm_wB); (first | exact rfl | exact lm_arB (by omega) | exact lm_arM (by omega)); omega)
    | ((with_reducible apply lm_sAl); (first | exact rfl | exact lm_arB (by omega) | exact lm_arM (by omega)); omega)
    | ((with_reducible apply lm_iW); decide))
  simp only [Nat.reduceDiv, Nat.reduceMod]
  rw [f2.1 32 (by omega), lm_u_row (by decide), hm, lm_K0]
  refine lm_cV e3 ?_
  refine lm_iT (show Int32.ofNat 0 = 0 by decide) ?_
  refine lm_ltF (by omega) (by omega) (by omega) ?_
  repeat (first
    | ((with_reducible apply lm_sI); exact rfl)
    | ((with_reducible apply lm_sR); exact rfl)
    | ((with_reducible apply lm_sS); exact rfl; exact rfl)
    | ((with_reducible apply lm_sL); exact rfl)
    | ((with_reducible apply lm_sP); exact rfl; exact rfl)
    | ((with_reducible apply lm_sPL); exact rfl; exact rfl)
    | ((with_reducible apply lm_sAA); exact rfl; first | exact rfl | exact lm_roO (by omega) | exact lm_roM (by omega))
    | ((with_reducible apply lm_sI); exact lm_fpL (by omega))
    | ((with_reducible apply lm_sR); exact lm_fpB (by omega))
    | ((with_reducible apply lm_sP); exact lm_fpL (by omega); exact rfl)
    | ((with_reducible apply lm_sS); exact lm_ocO (by omega); exact rfl)
    | ((with_reducible apply lm_sA); exact rfl; omega)
    | ((with_reducible apply lm_sJ); exact rfl; omega)
    | ((with_reducible apply lm_sB); (first | exact rfl | exact lm_arB (by omega) | exact lm_arM (by omega)); omega)
    | ((with_reducible apply lm_wA); exact rfl; omega)
    | ((with_reducible apply lm_wJ); exact rfl; omega)
    | ((with_reducible apply lm_wB); (first | exact rfl | exact lm_arB (by omega) | exact lm_arM (by omega)); omega)
    | ((with_reducible apply lm_sAl); (first | exact rfl | exact lm_arB (by omega) | exact lm_arM (by omega)); omega)
    | ((with_reducible apply lm_iW); decide))
  refine lm_cV e4 ?_
  repeat (first
    | ((with_reducible apply lm_sI); exact rfl)
    | ((with_reducible apply lm_sR); exact rfl)
    | ((with_reducible apply lm_sS); exact rfl; exact rfl)
    | ((with_reducible apply lm_sL); exact rfl)
    | ((with_reducible apply lm_sP); exact rfl; exact rfl)
    | ((with_reducible apply lm_sPL); exact rfl; exact rfl)
    | ((with_reducible apply lm_sAA); exact rfl; first | exact rfl | exact lm_roO (by omega) | exact lm_roM (by omega))
    | ((with_reducible apply lm_sI); exact lm_fpL (by omega))
    | ((with_reducible apply lm_sR); exact lm_fpB (by omega))
    | ((with_reducible apply lm_sP); exact lm_fpL (by omega); exact rfl)
    | ((with_reducible apply lm_sS); exact lm_ocO (by omega); exact rfl)
    | ((with_reducible apply lm_sA); exact rfl; omega)
    | ((with_reducible apply lm_sJ); exact rfl; omega)
    | ((with_reducible apply lm_sB); (first | exact rfl | exact lm_arB (by omega) | exact lm_arM (by omega)); omega)
    | ((with_reducible apply lm_wA); exact rfl; omega)
    | ((with_reducible apply lm_wJ); exact rfl; omega)
    | ((with_reducible apply lm_wB); (first | exact rfl | exact lm_arB (by omega) | exact lm_arM (by omega)); omega)
    | ((with_reducible apply lm_sAl); (first | exact rfl | exact lm_arB (by omega) | exact lm_arM (by omega)); omega)
    | ((with_reducible apply lm_iW); decide))
  simp only [Nat.reduceDiv, Nat.reduceMod]
  rw [e38]
  exact rfl
theorem lm_u59g16 (hc : lm_Con m n) (hw : w ≤ 65536) (hm : m 32 1 = Int32.ofNat l) (hl : l ≤ 65536) : ∃ m1 n1, lm_cal (lm_sc xs) (d + 6) 59 [.ref 0, .int (Int32.ofNat 16), .int (Int32.ofNat w)] (lm_w m n x) = some (.ok (some (.int (Int32.ofNat w))), lm_w m1 n1 x) ∧ (∀ i, i < w → m1 39 i = lm_gv2 m n 3 33 l i) ∧ lm_fq 39 (lm_u m 38 1 (Int32.ofNat w)) n m1 n1 := by
  have hT := hc.tok xs
  have hI := hc.iok
  obtain ⟨_, _, _, _, _, _, _, _, g11, g17⟩ := hc
  obtain ⟨m2, n2, e2, C2, f2⟩ := lm_cstt (xs := xs) (d := d + 2) (x := x) (k := 3) (m := lm_u m 38 1 (Int32.ofNat w)) (n := n) (by decide) (by decide) (by rw [lm_u_row (by decide)]; exact g11) (by rw [lm_u_row (by decide)]; exact g17) hI (J := n 223) (b := m 227)
  have e33 : m2 33 = m 33 := by rw [f2.1 33 (by omega), lm_u_row (by decide)]
  obtain ⟨m3, n3, e3, C3, f3⟩ := lm_cadd (xs := xs) (d := d + 1) (x := x) (q := 33) (v := 65536) (a := 0) (l := l) hT (by decide) (by decide) (by omega) rfl (by omega) (by omega) (show (0 : Nat) < lm_rate 3 by decide) C2
  rw [e33] at C3
  have f3C := f3.C (by decide) (by decide)
  unfold lm_CS at C3
  rw [if_neg (by decide), if_pos (by decide)] at C3
  obtain ⟨m4, n4, e4, K4, f4⟩ := lm_u142_17 (xs := xs) (d := d) (x := x) (T := lm_tb m n) (q := 39) (v := 65536) (L := w) hT (by omega) rfl hw (by decide) (lm_hps_f (r := 128) _ _ _ (show (0 : Nat) < 128 by decide)) C3.1 C3.2
  refine ⟨m4, n4, ?_, K4, (f2.q.tr f3C.q).tr f4⟩
  have e38 : m4 38 1 = Int32.ofNat w := by rw [f4.1 38 (by decide) (by omega), f3C.1 38 (by omega), f2.1 38 (by omega), lm_u_eq]
  refine lm_cal_of (Y := lm_m59) rfl rfl (lm_e59_0 ?_)
  unfold lm_q59_0
  refine lm_cV (lm_t132 (d := d + 4) (by decide) (by decide)) ?_
  refine lm_cV (lm_t132n (i := w) (n := 65536) (d := d + 4) hw (by decide)) ?_
  have eb : lm_cal (lm_sc xs) (d + 5) 137 [.int (Int32.ofNat 16)] (lm_w m n x) = some (.ok (some (.int (Int32.ofNat 3))), lm_w m n x) := by
    refine lm_cal_of (Y := lm_m137) rfl rfl (lm_e137_0 ?_)
    unfold lm_q137_0
    simp only [lm_K13, lm_K14, lm_K15, lm_K16]
    refine lm_eqF (by omega) (by omega) (by omega) ?_
    refine lm_neT (by omega) (by omega) (by omega) ?_
    refine lm_eqF (by omega) (by omega) (by omega) ?_
    refine lm_neF (by omega) (by omega) (by omega) ?_
    refine lm_e137_26 ?_
    unfold lm_q137_26
    exact rfl
  refine lm_cI eb ?_
  rw [lm_K11, lm_K12, lm_K15]
  refine lm_eqF (by omega) (by omega) (by omega) ?_
  refine lm_eqF (by omega) (by omega) (by omega) ?_
  refine lm_ltF (by omega) (by omega) (by omega) ?_
  refine lm_e59_37 ?_
  unfold lm_q59_37
  refine lm_e59_42 ?_
  unfold lm_q59_42
  rw [lm_K13, lm_K14]
  refine lm_eqF (by omega) (by omega) (by omega) ?_
  refine lm_neT (by omega) (by omega) (by omega) ?_
  refine lm_e59_61 ?_
  unfold lm_q59_61
  rw [lm_K6, lm_K0]
  repeat (first
    | ((with_reducible apply lm_sI); exact rfl)
    | ((with_reducible apply lm_sR); exact rfl)
    | ((with_reducible apply lm_sS); exact rfl; exact rfl)
    | ((with_reducible apply lm_sL); exact rfl)
    | ((with_reducible apply lm_sP); exact rfl; exact rfl)
    | ((with_reducible apply lm_sPL); exact rfl; exact rfl)
    | ((with_reducible apply lm_sAA); exact rfl; first | exact rfl | exact lm_roO (by omega) | exact lm_roM (by omega))
    | ((with_reducible apply lm_sI); exact lm_fpL (by omega))
    | ((with_reducible apply lm_sR); exact lm_fpB (by omega))
    | ((with_reducible apply lm_sP); exact lm_fpL (by omega); exact rfl)
    | ((with_reducible apply lm_sS); exact lm_ocO (by omega); exact rfl)
    | ((with_reducible apply lm_sA); exact rfl; omega)
    | ((with_reducible apply lm_sJ); exact rfl; omega)
    | ((with_reducible apply lm_sB); (first | exact rfl | exact lm_arB (by omega) | exact lm_arM (by omega)); omega)
    | ((with_reducible apply lm_wA); exact rfl; omega)
    | ((with_reducible apply lm_wJ); exact rfl; omega)
    | ((with_reducible apply lm_wB); (first | exact rfl | exact lm_arB (by omega) | exact lm_arM (by omega)); omega)
    | ((with_reducible apply lm_sAl); (first | exact rfl | exact lm_arB (by omega) | exact lm_arM (by omega)); omega)
    | ((with_reducible apply lm_iW); decide))
  refine lm_iF (show ¬ Int32.ofInt 1 = 0 by decide) ?_
  refine lm_e59_96 ?_
  unfold lm_q59_96
  repeat (first
    | ((with_reducible apply lm_sI); exact rfl)
    | ((with_reducible apply lm_sR); exact rfl)
    | ((with_reducible apply lm_sS); exact rfl; exact rfl)
    | ((with_reducible apply lm_sL); exact rfl)
    | ((with_reducible apply lm_sP); exact rfl; exact rfl)
    | ((with_reducible apply lm_sPL); exact rfl; exact rfl)
    | ((with_reducible apply lm_sAA); exact rfl; first | exact rfl | exact lm_roO (by omega) | exact lm_roM (by omega))
    | ((with_reducible apply lm_sI); exact lm_fpL (by omega))
    | ((with_reducible apply lm_sR); exact lm_fpB (by omega))
    | ((with_reducible apply lm_sP); exact lm_fpL (by omega); exact rfl)
    | ((with_reducible apply lm_sS); exact lm_ocO (by omega); exact rfl)
    | ((with_reducible apply lm_sA); exact rfl; omega)
    | ((with_reducible apply lm_sJ); exact rfl; omega)
    | ((with_reducible apply lm_sB); (first | exact rfl | exact lm_arB (by omega) | exact lm_arM (by omega)); omega)
    | ((with_reducible apply lm_wA); exact rfl; omega)
    | ((with_reducible apply lm_wJ); exact rfl; omega)
    | ((with_reducible apply lm_wB); (first | exact rfl | exact lm_arB (by omega) | exact lm_arM (by omega)); omega)
    | ((with_reducible apply lm_sAl); (first | exact rfl | exact lm_arB (by omega) | exact lm_arM (by omega)); omega)
    | ((with_reducible apply lm_iW); decide))
  refine lm_iT (show Int32.ofNat 0 = 0 by decide) ?_
  repeat (first
    | ((with_reducible apply lm_sI); exact rfl)
    | ((with_reducible apply lm_sR); exact rfl)
    | ((with_reducible apply lm_sS); exact rfl; exact rfl)
    | ((with_reducible apply lm_sL); exact rfl)
    | ((with_reducible apply lm_sP); exact rfl; exact rfl)
    | ((with_reducible apply lm_sPL); exact rfl; exact rfl)
    | ((with_reducible apply lm_sAA); exact rfl; first | exact rfl | exact lm_roO (by omega) | exact lm_roM (by omega))
    | ((with_reducible apply lm_sI); exact lm_fpL (by omega))
    | ((with_reducible apply lm_sR); exact lm_fpB (by omega))
    | ((with_reducible apply lm_sP); exact lm_fpL (by omega); exact rfl)
    | ((with_reducible apply lm_sS); exact lm_ocO (by omega); exact rfl)
    | ((with_reducible apply lm_sA); exact rfl; omega)
    | ((with_reducible apply lm_sJ); exact rfl; omega)
    | ((with_reducible apply lm_sB); (first | exact rfl | exact lm_arB (by omega) | exact lm_arM (by omega)); omega)
    | ((with_reducible apply lm_wA); exact rfl; omega)
    | ((with_reducible apply lm_wJ); exact rfl; omega)
    | ((with_reducible apply lm_wB); (first | exact rfl | exact lm_arB (by omega) | exact lm_arM (by omega)); omega)
    | ((with_reducible apply lm_sAl); (first | exact rfl | exact lm_arB (by omega) | exact lm_arM (by omega)); omega)
    | ((with_reducible apply lm_iW); decide))
  refine lm_cR e2 ?_
  refine lm_e59_134 ?_
  unfold lm_q59_134
  rw [lm_K3, lm_K15]
  repeat (first
    | ((with_reducible apply lm_sI); exact rfl)
    | ((with_reducible apply lm_sR); exact rfl)
    | ((with_reducible apply lm_sS); exact rfl; exact rfl)
    | ((with_reducible apply lm_sL); exact rfl)
    | ((with_reducible apply lm_sP); exact rfl; exact rfl)
    | ((with_reducible apply lm_sPL); exact rfl; exact rfl)
    | ((with_reducible apply lm_sAA); exact rfl; first | exact rfl | exact lm_roO (by omega) | exact lm_roM (by omega))
    | ((with_reducible apply lm_sI); exact lm_fpL (by omega))
    | ((with_reducible apply lm_sR); exact lm_fpB (by omega))
    | ((with_reducible apply lm_sP); exact lm_fpL (by omega); exact rfl)
    | ((with_reducible apply lm_sS); exact lm_ocO (by omega); exact rfl)
    | ((with_reducible apply lm_sA); exact rfl; omega)
    | ((with_reducible apply lm_sJ); exact rfl; omega)
    | ((with_reducible apply lm_sB); (first | exact rfl | exact lm_arB (by omega) | exact lm_arM (by omega)); omega)
    | ((with_reducible apply lm_wA); exact rfl; omega)
    | ((with_reducible apply lm_wJ); exact rfl; omega)
    | ((with_reducible apply lm_wB); (first | exact rfl | exact lm_arB (by omega) | exact lm_arM (by omega)); omega)
    | ((with_reducible apply lm_sAl); (first | exact rfl | exact lm_arB (by omega) | exact lm_arM (by omega)); omega)
    | ((with_reducible apply lm_iW); decide))
  simp only [Nat.reduceDiv, Nat.reduceMod]
  rw [f2.1 32 (by omega), lm_u_row (by decide), hm, lm_K0]
  refine lm_cV e3 ?_
  refine lm_iT (show Int32.ofNat 0 = 0 by decide) ?_
  refine lm_ltF (by omega) (by omega) (by omega) ?_
  repeat (first
    | ((with_reducible apply lm_sI); exact rfl)
    | ((with_reducible apply lm_sR); exact rfl)
    | ((with_reducible apply lm_sS); exact rfl; exact rfl)
    | ((with_reducible apply lm_sL); exact rfl)
    | ((with_reducible apply lm_sP); exact rfl; exact rfl)
    | ((with_reducible apply lm_sPL); exact rfl; exact rfl)
    | ((with_reducible apply lm_sAA); exact rfl; first | exact rfl | exact lm_roO (by omega) | exact lm_roM (by omega))
    | ((with_reducible apply lm_sI); exact lm_fpL (by omega))
    | ((with_reducible apply lm_sR); exact lm_fpB (by omega))
    | ((with_reducible apply lm_sP); exact lm_fpL (by omega); exact rfl)
    | ((with_reducible apply lm_sS); exact lm_ocO (by omega); exact rfl)
    | ((with_reducible apply lm_sA); exact rfl; omega)
    | ((with_reducible apply lm_sJ); exact rfl; omega)
    | ((with_reducible apply lm_sB); (first | exact rfl | exact lm_arB (by omega) | exact lm_arM (by omega)); omega)
    | ((with_reducible apply lm_wA); exact rfl; omega)
    | ((with_reducible apply lm_wJ); exact rfl; omega)
    | ((with_reducible apply lm_wB); (first | exact rfl | exact lm_arB (by omega) | exact lm_arM (by omega)); omega)
    | ((with_reducible apply lm_sAl); (first | exact rfl | exact lm_arB (by omega) | exact lm_arM (by omega)); omega)
    | ((with_reducible apply lm_iW); decide))
  refine lm_cV e4 ?_
  repeat (first
    | ((with_reducible apply lm_sI); exact rfl)
    | ((with_reducible apply lm_sR); exact rfl)
    | ((with_reducible apply lm_sS); exact rfl; exact rfl)
    | ((with_reducible apply lm_sL); exact rfl)
    | ((with_reducible apply lm_sP); exact rfl; exact rfl)
    | ((with_reducible apply lm_sPL); exact rfl; exact rfl)
    | ((with_reducible apply lm_sAA); exact rfl; first | exact rfl | exact lm_roO (by omega) | exact lm_roM (by omega))
    | ((with_reducible apply lm_sI); exact lm_fpL (by omega))
    | ((with_reducible apply lm_sR); exact lm_fpB (by omega))
    | ((with_reducible apply lm_sP); exact lm_fpL (by omega); exact rfl)
    | ((with_reducible apply lm_sS); exact lm_ocO (by omega); exact rfl)
    | ((with_reducible apply lm_sA); exact rfl; omega)
    | ((with_reducible apply lm_sJ); exact rfl; omega)
    | ((with_reducible apply lm_sB); (first | exact rfl | exact lm_arB (by omega) | exact lm_arM (by omega)); omega)
    | ((with_reducible apply lm_wA); exact rfl; omega)
    | ((with_reducible apply lm_wJ); exact rfl; omega)
    | ((with_reducible apply lm_wB); (first | exact rfl | exact lm_arB (by omega) | exact lm_arM (by omega)); omega)
    | ((with_reducible apply lm_sAl); (first | exact rfl | exact lm_arB (by omega) | exact lm_arM (by omega)); omega)
    | ((with_reducible apply lm_iW); decide))
  simp only [Nat.reduceDiv, Nat.reduceMod]
  rw [e38]
  exact rfl
end LMD5
