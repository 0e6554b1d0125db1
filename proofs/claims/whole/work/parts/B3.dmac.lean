/-! ===== digest, HMAC ===== -/
/-- the bytes of an HMAC: key q of l bytes, message q2 of l2 bytes -/
def lm_hv (m : lm_MI) (n : lm_ML) (b q l q2 l2 : Nat) (i : Nat) : Int32 := lm_ou (lm_tb m n) b (lm_rate b) (lm_hf (lm_tb m n) b (lm_rate b) (lm_mo (lm_tb m n) b (lm_kb (lm_tb m n) b (m q) l (lm_h0 m n b)) (lm_hps (lm_tb m n) b (lm_rate b) (fun i => lm_b8 (m q2 i)) l2 0 (lm_hps (lm_tb m n) b (lm_rate b) (fun i => lm_kb (lm_tb m n) b (m q) l (lm_h0 m n b) i ^^^ Int32.ofInt 54) (lm_rate b) 0 (lm_h0 m n b))) (lm_h0 m n b))).2.2.1 i
section LMD3
variable {xs : List Int32} {d k b w l l2 : Nat} {m : lm_MI} {n : lm_ML} {x : lm_H × Nat × Nat}
theorem lm_u59m (hc : lm_Con m n) (hkb : (k = 13 ∧ b = 1) ∨ (k = 14 ∧ b = 3)) (hw : w ≤ 65536) (hm0 : m 26 1 = Int32.ofNat l) (hl : l ≤ 65536) (hm : m 32 1 = Int32.ofNat l2) (hl2 : l2 ≤ 65536) : ∃ m1 n1, lm_cal (lm_sc xs) (d + 6) 59 [.ref 0, .int (Int32.ofNat k), .int (Int32.ofNat w)] (lm_w m n x) = some (.ok (some (.int (Int32.ofNat (lm_dg b)))), lm_w (lm_fil m1 39 0 (lm_dg b) (lm_hv m n b 27 l 33 l2)) n1 x) ∧ lm_fD (lm_u m 38 1 (Int32.ofNat (lm_dg b))) n m1 n1 := by
  have hT := hc.tok xs
  have hI := hc.iok
  obtain ⟨_, _, _, _, _, _, _, _, g11, g17⟩ := hc
  have hdg := lm_dg_le b
  have hrp := lm_rate_pos b
  have h1 : 1 ≤ b := by omega
  have h2 : b ≤ 6 := by omega
  have h12 : b ≤ 12 := by omega
  obtain ⟨m2, n2, e2, C2, K2, f2⟩ := lm_u138 (xs := xs) (d := d) (x := x) (T := lm_tb m n) (b := b) (l := l) (m := lm_u m 38 1 (Int32.ofNat (lm_dg b))) (n := n) (nr := n) (q := 27) (v := 65536) (h0 := lm_h0 m n b) hT hI (by rw [lm_u_row (by decide)]; exact g11) (by rw [lm_u_row (by decide)]; exact g17) h1 h2 (by omega) rfl hl (by decide) rfl
  rw [lm_u_row (show 27 ≠ 38 by decide)] at C2 K2
  have e33 : m2 33 = m 33 := by rw [f2.1 33 (by omega), lm_u_row (by decide)]
  have h00 : (lm_h0 m n b).1 < lm_rate b := by show 0 < lm_rate b; omega
  obtain ⟨m3, n3, e3, C3, f3⟩ := lm_cadd (xs := xs) (d := d + 1) (x := x) (q := 33) (v := 65536) (a := 0) (l := l2) hT h1 h12 (by omega) rfl (by omega) (by omega) (lm_hps_f _ _ _ h00) C2
  rw [e33] at C3
  have f3C := f3.C h1 h12
  obtain ⟨m4, n4, e4, f4⟩ := lm_u141 (xs := xs) (d := d) (x := x) (T := lm_tb m n) (b := b) (nr := n) (q := 39) (v := 65536) (a := 0) (L := lm_dg b) (h0 := lm_h0 m n b) (kb := lm_kb (lm_tb m n) b (m 27) l (lm_h0 m n b)) hT hI (f3C.2.2.1.trans (f2.2.2.1.trans (by rw [lm_u_row (by decide)]; exact g11))) (f3C.2.2.2.trans (f2.2.2.2.trans (by rw [lm_u_row (by decide)]; exact g17))) h1 h2 (by omega) rfl (by omega) (by decide) (by omega) rfl (fun i hi => by rw [f3C.1 23 (by omega)]; exact K2 i hi) (lm_hps_f _ _ _ (lm_hps_f _ _ _ h00)) C3
  rw [Nat.zero_add] at e4
  refine ⟨m4, n4, ?_, (f2.tr f3C.D).tr f4⟩
  have e38 : m3 38 1 = Int32.ofNat (lm_dg b) := by rw [f3C.1 38 (by omega), f2.1 38 (by omega), lm_u_eq]
  have tail : lm_rn (lm_sc xs) (d + 5) lm_m59.2.2.2.2.1 (lm_reg lm_m59.2.2.2.2.2) (56, [(0, .ref 0), (1, .int (Int32.ofNat k)), (2, .int (Int32.ofNat w)), (3, .int (Int32.ofNat b)), (4, .int (Int32.ofInt 0))], []) (lm_w m n x) = some (.ok (some (.int (Int32.ofNat (lm_dg b)))), lm_w (lm_fil m4 39 0 (lm_dg b) (lm_hv m n b 27 l 33 l2)) n4 x) := by
    refine lm_e59_56 ?_
    unfold lm_q59_56
    refine lm_e59_61 ?_
    unfold lm_q59_61
    rw [lm_K6, lm_K0]
    repeat (first
    | ((with_reducible apply lm_sI); exact rfl)
    | ((with_reducible apply lm_sR); exact rfl)
    | ((with_reducible apply lm_sS); exact rfl; exact rfl)
    | ((with_reducible apply lm_sL); exact rfl)
    | ((with_reducible apply lm_sP); exact rfl; exact rfl)
    | ((with_reducible apply lm_sPL); exact rfl; exact rfl)
    | ((with_reducible apply lm_sAA); exact rfl; first | exact rfl | exact lm_roO (by omega) | exact lm_roM (by omega))
    | ((with_reducible apply lm_sI); exact lm_fpL (by omega))
    | ((with_reducible apply lm_sR); exact lm_fpB (by omega))
    | ((with_reducible apply lm_sP); exact lm_fpL (by omega); exact rfl)
    | ((with_reducible apply lm_sS); exact lm_ocO (by omega); exact rfl)
    | ((with_reducible apply lm_sA); exact rfl; omega)
    | ((with_reducible apply lm_sJ); exact rfl; omega)
    | ((with_reducible apply lm_sB); (first | exact rfl | exact lm_arB (by omega) | exact lm_arM (by omega)); omega)
    | ((with_reducible apply lm_wA); exact rfl; omega)
    | ((with_reducible apply lm_wJ); exact rfl; omega)
    | ((with_reducible apply lm_wB); (first | exact rfl | exact lm_arB (by omega) | exact lm_arM (by omega)); omega)
    | ((with_reducible apply lm_sAl); (first | exact rfl | exact lm_arB (by omega) | exact lm_arM (by omega)); omega)
    | ((with_reducible apply lm_iW); decide))
    refine lm_iT (show Int32.ofNat 0 = 0 by decide) ?_
    refine lm_sSI h1 h12 ?_
    refine lm_e59_96 ?_
    unfold lm_q59_96
    repeat (first
    | ((with_reducible apply lm_sI); exact rfl)
    | ((with_reducible apply lm_sR); exact rfl)
    | ((with_reducible apply lm_sS); exact rfl; exact rfl)
    | ((with_reducible apply lm_sL); exact rfl)
    | ((with_reducible apply lm_sP); exact rfl; exact rfl)
    | ((with_reducible apply lm_sPL); exact rfl; exact rfl)
    | ((with_reducible apply lm_sAA); exact rfl; first | exact rfl | exact lm_roO (by omega) | exact lm_roM (by omega))
    | ((with_reducible apply lm_sI); exact lm_fpL (by omega))
    | ((with_reducible apply lm_sR); exact lm_fpB (by omega))
    | ((with_reducible apply lm_sP); exact lm_fpL (by omega); exact rfl)
    | ((with_reducible apply lm_sS); exact lm_ocO (by omega); exact rfl)
    | ((with_reducible apply lm_sA); exact rfl; omega)
    | ((with_reducible apply lm_sJ); exact rfl; omega)
    | ((with_reducible apply lm_sB); (first | exact rfl | exact lm_arB (by omega) | exact lm_arM (by omega)); omega)
    | ((with_reducible apply lm_wA); exact rfl; omega)
    | ((with_reducible apply lm_wJ); exact rfl; omega)
    | ((with_reducible apply lm_wB); (first | exact rfl | exact lm_arB (by omega) | exact lm_arM (by omega)); omega)
    | ((with_reducible apply lm_sAl); (first | exact rfl | exact lm_arB (by omega) | exact lm_arM (by omega)); omega)
    | ((with_reducible apply lm_iW); decide))
    refine lm_iF (show ¬ Int32.ofInt 1 = 0 by decide) ?_
    repeat (first
    | ((with_reducible apply lm_sI); exact rfl)
    | ((with_reducible apply lm_sR); exact rfl)
    | ((with_reducible apply lm_sS); exact rfl; exact rfl)
    | ((with_reducible apply lm_sL); exact rfl)
    | ((with_reducible apply lm_sP); exact rfl; exact rfl)
    | ((with_reducible apply lm_sPL); exact rfl; exact rfl)
    | ((with_reducible apply lm_sAA); exact rfl; first | exact rfl | exact lm_roO (by omega) | exact lm_roM (by omega))
    | ((with_reducible apply lm_sI); exact lm_fpL (by omega))
    | ((with_reducible apply lm_sR); exact lm_fpB (by omega))
    | ((with_reducible apply lm_sP); exact lm_fpL (by omega); exact rfl)
    | ((with_reducible apply lm_sS); exact lm_ocO (by omega); exact rfl)
    | ((with_reducible apply lm_sA); exact rfl; omega)
    | ((with_reducible apply lm_sJ); exact rfl; omega)
    | ((with_reducible apply lm_sB); (first | exact rfl | exact lm_arB (by omega) | exact lm_arM (by omega)); omega)
    | ((with_reducible apply lm_wA); exact rfl; omega)
    | ((with_reducible apply lm_wJ); exact rfl; omega)
    | ((with_reducible apply lm_wB); (first | exact rfl | exact lm_arB (by omega) | exact lm_arM (by omega)); omega)
    | ((with_reducible apply lm_sAl); (first | exact rfl | exact lm_arB (by omega) | exact lm_arM (by omega)); omega)
    | ((with_reducible apply lm_iW); decide))
    simp only [Nat.reduceDiv, Nat.reduceMod]
    rw [lm_u_row (by decide), hm0, lm_K0]
    refine lm_cR e2 ?_
    refine lm_e59_134 ?_
    unfold lm_q59_134
    rw [lm_K3, lm_K0]
    repeat (first
    | ((with_reducible apply lm_sI); exact rfl)
    | ((with_reducible apply lm_sR); exact rfl)
    | ((with_reducible apply lm_sS); exact rfl; exact rfl)
    | ((with_reducible apply lm_sL); exact rfl)
    | ((with_reducible apply lm_sP); exact rfl; exact rfl)
    | ((with_reducible apply lm_sPL); exact rfl; exact rfl)
    | ((with_reducible apply lm_sAA); exact rfl; first | exact rfl | exact lm_roO (by omega) | exact lm_roM (by omega))
    | ((with_reducible apply lm_sI); exact lm_fpL (by omega))
    | ((with_reducible apply lm_sR); exact lm_fpB (by omega))
    | ((with_reducible apply lm_sP); exact lm_fpL (by omega); exact rfl)
    | ((with_reducible apply lm_sS); exact lm_ocO (by omega); exact rfl)
    | ((with_reducible apply lm_sA); exact rfl; omega)
    | ((with_reducible apply lm_sJ); exact rfl; omega)
    | ((with_reducible apply lm_sB); (first | exact rfl | exact lm_arB (by omega) | exact lm_arM (by omega)); omega)
    | ((with_reducible apply lm_wA); exact rfl; omega)
    | ((with_reducible apply lm_wJ); exact rfl; omega)
    | ((with_reducible apply lm_wB); (first | exact rfl | exact lm_arB (by omega) | exact lm_arM (by omega)); omega)
    | ((with_reducible apply lm_sAl); (first | exact rfl | exact lm_arB (by omega) | exact lm_arM (by omega)); omega)
    | ((with_reducible apply lm_iW); decide))
    simp only [Nat.reduceDiv, Nat.reduceMod]
    rw [f2.1 32 (by omega), lm_u_row (by decide), hm]
    refine lm_selA h1 h12 ?_
    refine lm_cV e3 ?_
    refine lm_iF (show ¬ Int32.ofInt 1 = 0 by decide) ?_
    repeat (first
    | ((with_reducible apply lm_sI); exact rfl)
    | ((with_reducible apply lm_sR); exact rfl)
    | ((with_reducible apply lm_sS); exact rfl; exact rfl)
    | ((with_reducible apply lm_sL); exact rfl)
    | ((with_reducible apply lm_sP); exact rfl; exact rfl)
    | ((with_reducible apply lm_sPL); exact rfl; exact rfl)
    | ((with_reducible apply lm_sAA); exact rfl; first | exact rfl | exact lm_roO (by omega) | exact lm_roM (by omega))
    | ((with_reducible apply lm_sI); exact lm_fpL (by omega))
    | ((with_reducible apply lm_sR); exact lm_fpB (by omega))
    | ((with_reducible apply lm_sP); exact lm_fpL (by omega); exact rfl)
    | ((with_reducible apply lm_sS); exact lm_ocO (by omega); exact rfl)
    | ((with_reducible apply lm_sA); exact rfl; omega)
    | ((with_reducible apply lm_sJ); exact rfl; omega)
    | ((with_reducible apply lm_sB); (first | exact rfl | exact lm_arB (by omega) | exact lm_arM (by omega)); omega)
    | ((with_reducible apply lm_wA); exact rfl; omega)
    | ((with_reducible apply lm_wJ); exact rfl; omega)
    | ((with_reducible apply lm_wB); (first | exact rfl | exact lm_arB (by omega) | exact lm_arM (by omega)); omega)
    | ((with_reducible apply lm_sAl); (first | exact rfl | exact lm_arB (by omega) | exact lm_arM (by omega)); omega)
    | ((with_reducible apply lm_iW); decide))
    simp only [Nat.reduceDiv, Nat.reduceMod]
    rw [e38]
    refine lm_cV e4 ?_
    repeat (first
    | ((with_reducible apply lm_sI); exact rfl)
    | ((with_reducible apply lm_sR); exact rfl)
    | ((with_reducible apply lm_sS); exact rfl; exact rfl)
    | ((with_reducible apply lm_sL); exact rfl)
    | ((with_reducible apply lm_sP); exact rfl; exact rfl)
    | ((with_reducible apply lm_sPL); exact rfl; exact rfl)
    | ((with_reducible apply lm_sAA); exact rfl; first | exact rfl | exact lm_roO (by omega) | exact lm_roM (by omega))
    | ((with_reducible apply lm_sI); exact lm_fpL (by omega))
    | ((with_reducible apply lm_sR); exact lm_fpB (by omega))
    | ((with_reducible apply lm_sP); exact lm_fpL (by omega); exact rfl)
    | ((with_reducible apply lm_sS); exact lm_ocO (by omega); exact rfl)
    | ((with_reducible apply lm_sA); exact rfl; omega)
    | ((with_reducible apply lm_sJ); exact rfl; omega)
    | ((with_reducible apply lm_sB); (first | exact rfl | exact lm_arB (by omega) | exact lm_arM (by omega)); omega)
    | ((with_reducible apply lm_wA); exact rfl; omega)
    | ((with_reducible apply lm_wJ); exact rfl; omega)
    | ((with_reducible apply lm_wB); (first | exact rfl | exact lm_arB (by omega) | exact lm_arM (by omega)); omega)
    | ((with_reducible apply lm_sAl); (first | exact rfl | exact lm_arB (by omega) | exact lm_arM (by omega)); omega)
    | ((with_reducible apply lm_iW); decide))
    simp only [Nat.reduceDiv, Nat.reduceMod]
    rw [lm_fl_row (by decide), f4.1 38 (by omega), e38]
    exact rfl
  refine lm_cal_of (Y := lm_m59) rfl rfl (lm_e59_0 ?_)
  unfold lm_q59_0
  refine lm_cV (lm_t132 (d := d + 4) (by rw [lm_K1]; exact (lm_le32 (by omega) (by omega)).mpr (by omega)) (by rw [lm_K16]; exact (lm_le32 (by omega) (by omega)).mpr (by omega))) ?_
  refine lm_cV (lm_t132n (i := w) (n := 65536) (d := d + 4) hw (by decide)) ?_
  have eb : lm_cal (lm_sc xs) (d + 5) 137 [.int (Int32.ofNat k)] (lm_w m n x) = some (.ok (some (.int (Int32.ofNat b))), lm_w m n x) := by
    refine lm_cal_of (Y := lm_m137) rfl rfl (lm_e137_0 ?_)
    unfold lm_q137_0
    simp only [lm_K13, lm_K14, lm_K15, lm_K16]
    rcases hkb with ⟨c, c2⟩ | ⟨c, c2⟩
    · subst c2
      exact lm_eqT (by omega) (by omega) c rfl
    · subst c2
      refine lm_eqF (by omega) (by omega) (by omega) ?_
      refine lm_neT (by omega) (by omega) (by omega) ?_
      refine lm_eqT (by omega) (by omega) c ?_
      refine lm_e137_26 ?_
      unfold lm_q137_26
      exact rfl
  refine lm_cI eb ?_
  rw [lm_K11, lm_K12, lm_K15]
  refine lm_eqF (by omega) (by omega) (by omega) ?_
  refine lm_eqF (by omega) (by omega) (by omega) ?_
  refine lm_ltT (by omega) (by omega) (by omega) ?_
  refine lm_e59_42 ?_
  unfold lm_q59_42
  rw [lm_K13, lm_K14]
  by_cases c : k = 13
  · exact lm_eqT (by omega) (by omega) c tail
  · refine lm_eqF (by omega) (by omega) c ?_
    exact lm_neF (by omega) (by omega) (by omega) tail
end LMD3
