/-! ===== digest, MGF1, of the reference ===== -/
section LMD6
variable {sc : lm_H} {d k b w l : Nat} {m : lm_MI} {n : lm_ML} {x : lm_H × Nat × Nat}
theorem lm_u20g (hkb : (k = 15 ∧ b = 1) ∨ (k = 16 ∧ b = 3)) (hw : w ≤ 65536) (hm : m 214 3 = Int32.ofNat l) (hl : l ≤ 65536) : ∃ m1 n1, lm_cal sc (d + 7) 20 [.ref 203, .int (Int32.ofNat k), .int (Int32.ofNat w)] (lm_w m n x) = some (.ok (some (.int (Int32.ofNat w))), lm_w (lm_u m1 214 6 (Int32.ofNat w)) n1 x) ∧ (∀ i, i < w → m1 212 i = lm_b8 (lm_gv2 m n b 209 l i)) ∧ lm_fmk 212 (lm_u m 203 4 0) n m1 n1 := by
  have h1 : 1 ≤ b := by omega
  have h2 : b ≤ 6 := by omega
  have tb0 : lm_tb (lm_u m 203 4 0) n = lm_tb m n := by unfold lm_tb; rw [lm_u_row (by decide)]
  obtain ⟨m2, n2, e2, K2, f2⟩ := lm_u66 (sc := sc) (d := d) (x := x) (b := b) (l := l) (L := w) (m := lm_u m 203 4 0) (n := n) (q := 209) (v := 65536) (p := 212) (w := 65536) (h0 := lm_h0 m n b) (J := n 223) (bb := m 227) h1 h2 ⟨by decide, by decide, by decide, by decide⟩ ⟨by decide, by decide, by decide, by decide, by decide⟩ (by decide) rfl hl (by decide) rfl hw (by decide) rfl rfl
  rw [tb0, lm_u_row (show 209 ≠ 203 by decide)] at K2
  refine ⟨m2, n2, ?_, K2, f2⟩
  have tail : ∀ z : Int32, z = Int32.ofNat b → lm_rn sc (d + 6) lm_m20.2.2.2.2.1 (lm_reg lm_m20.2.2.2.2.2) (213, [(0, .ref 203), (3, .int (Int32.ofNat w))], [.int z, .ref 203]) (lm_w (lm_u m 203 4 0) n x) = some (.ok (some (.int (Int32.ofNat w))), lm_w (lm_u m2 214 6 (Int32.ofNat w)) n2 x) := by
    intro z hz
    subst hz
    refine lm_e20_213 ?_
    unfold lm_q20_213
    rw [lm_K0, lm_K3, lm_K6]
    repeat (first
    | ((with_reducible apply lm_sI); exact rfl)
    | ((with_reducible apply lm_sR); exact rfl)
    | ((with_reducible apply lm_sS); exact rfl; exact rfl)
    | ((with_reducible apply lm_sL); exact rfl)
    | ((with_reducible apply lm_sP); exact rfl; exact rfl)
    | ((with_reducible apply lm_sPL); exact rfl; exact rfl)
    | ((with_reducible apply lm_sAA); exact rfl; first | exact rfl | exact lm_roO (by omega) | exact lm_roM (by omega))
    | ((with_reducible apply lm_sI); exact lm_fpL (by omega))
    | ((with_reducible apply lm_sR); exact lm_fpB (by omega))
    | ((with_reducible apply lm_sP); exact lm_fpL (by omega); exact rfl)
    | ((with_reducible apply lm_sS); exact lm_ocO (by omega); exact rfl)
    | ((with_reducible apply lm_sA); exact rfl; omega)
    | ((with_reducible apply lm_sJ); exact rfl; omega)
    | ((with_reducible apply lm_sB); (first | exact rfl | exact lm_arB (by omega) | exact lm_arM (by omega)); omega)
    | ((with_reducible apply lm_wA); exact rfl; omega)
    | ((with_reducible apply lm_wJ); exact rfl; omega)
    | ((with_reducible apply lm_wB); (first | exact rfl | exact lm_arB (by omega) | exact lm_arM (by omega)); omega)
    | ((with_reducible apply lm_sAl); (first | exact rfl | exact lm_arB (by omega) | exact lm_arM (by omega)); omega)
    | ((with_reducible apply lm_iW); decide))
    rw [lm_u_row (by decide), hm]
    repeat (first
    | ((with_reducible apply lm_sI); exact rfl)
    | ((with_reducible apply lm_sR); exact rfl)
    | ((with_reducible apply lm_sS); exact rfl; exact rfl)
    | ((with_reducible apply lm_sL); exact rfl)
    | ((with_reducible apply lm_sP); exact rfl; exact rfl)
    | ((with_reducible apply lm_sPL); exact rfl; exact rfl)
    | ((with_reducible apply lm_sAA); exact rfl; first | exact rfl | exact lm_roO (by omega) | exact lm_roM (by omega))
    | ((with_reducible apply lm_sI); exact lm_fpL (by omega))
    | ((with_reducible apply lm_sR); exact lm_fpB (by omega))
    | ((with_reducible apply lm_sP); exact lm_fpL (by omega); exact rfl)
    | ((with_reducible apply lm_sS); exact lm_ocO (by omega); exact rfl)
    | ((with_reducible apply lm_sA); exact rfl; omega)
    | ((with_reducible apply lm_sJ); exact rfl; omega)
    | ((with_reducible apply lm_sB); (first | exact rfl | exact lm_arB (by omega) | exact lm_arM (by omega)); omega)
    | ((with_reducible apply lm_wA); exact rfl; omega)
    | ((with_reducible apply lm_wJ); exact rfl; omega)
    | ((with_reducible apply lm_wB); (first | exact rfl | exact lm_arB (by omega) | exact lm_arM (by omega)); omega)
    | ((with_reducible apply lm_sAl); (first | exact rfl | exact lm_arB (by omega) | exact lm_arM (by omega)); omega)
    | ((with_reducible apply lm_iW); decide))
    refine lm_cV e2 ?_
    refine lm_e20_237 ?_
    unfold lm_q20_237
    rw [lm_K6]
    repeat (first
    | ((with_reducible apply lm_sI); exact rfl)
    | ((with_reducible apply lm_sR); exact rfl)
    | ((with_reducible apply lm_sS); exact rfl; exact rfl)
    | ((with_reducible apply lm_sL); exact rfl)
    | ((with_reducible apply lm_sP); exact rfl; exact rfl)
    | ((with_reducible apply lm_sPL); exact rfl; exact rfl)
    | ((with_reducible apply lm_sAA); exact rfl; first | exact rfl | exact lm_roO (by omega) | exact lm_roM (by omega))
    | ((with_reducible apply lm_sI); exact lm_fpL (by omega))
    | ((with_reducible apply lm_sR); exact lm_fpB (by omega))
    | ((with_reducible apply lm_sP); exact lm_fpL (by omega); exact rfl)
    | ((with_reducible apply lm_sS); exact lm_ocO (by omega); exact rfl)
    | ((with_reducible apply lm_sA); exact rfl; omega)
    | ((with_reducible apply lm_sJ); exact rfl; omega)
    | ((with_reducible apply lm_sB); (first | exact rfl | exact lm_arB (by omega) | exact lm_arM (by omega)); omega)
    | ((with_reducible apply lm_wA); exact rfl; omega)
    | ((with_reducible apply lm_wJ); exact rfl; omega)
    | ((with_reducible apply lm_wB); (first | exact rfl | exact lm_arB (by omega) | exact lm_arM (by omega)); omega)
    | ((with_reducible apply lm_sAl); (first | exact rfl | exact lm_arB (by omega) | exact lm_arM (by omega)); omega)
    | ((with_reducible apply lm_iW); decide))
    exact rfl
  refine lm_cal_of (Y := lm_m20) rfl rfl (lm_e20_0 ?_)
  unfold lm_q20_0
  refine lm_cI (lm_t52t (d := d + 5) ⟨by rw [lm_K1]; exact (lm_le32 (by omega) (by omega)).mpr (by omega), by rw [lm_K16]; exact (lm_le32 (by omega) (by omega)).mpr (by omega)⟩) ?_
  refine lm_iF (show ¬ (1 : Int32) = 0 by decide) ?_
  refine lm_cI (lm_t52n (i := w) (n := 65536) (d := d + 5) hw (by decide)) ?_
  refine lm_iF (show ¬ (1 : Int32) = 0 by decide) ?_
  refine lm_e20_26 ?_
  unfold lm_q20_26
  repeat (first
    | ((with_reducible apply lm_sI); exact rfl)
    | ((with_reducible apply lm_sR); exact rfl)
    | ((with_reducible apply lm_sS); exact rfl; exact rfl)
    | ((with_reducible apply lm_sL); exact rfl)
    | ((with_reducible apply lm_sP); exact rfl; exact rfl)
    | ((with_reducible apply lm_sPL); exact rfl; exact rfl)
    | ((with_reducible apply lm_sAA); exact rfl; first | exact rfl | exact lm_roO (by omega) | exact lm_roM (by omega))
    | ((with_reducible apply lm_sI); exact lm_fpL (by omega))
    | ((with_reducible apply lm_sR); exact lm_fpB (by omega))
    | ((with_reducible apply lm_sP); exact lm_fpL (by omega); exact rfl)
    | ((with_reducible apply lm_sS); exact lm_ocO (by omega); exact rfl)
    | ((with_reducible apply lm_sA); exact rfl; omega)
    | ((with_reducible apply lm_sJ); exact rfl; omega)
    | ((with_reducible apply lm_sB); (first | exact rfl | exact lm_arB (by omega) | exact lm_arM (by omega)); omega)
    | ((with_reducible apply lm_wA); exact rfl; omega)
    | ((with_reducible apply lm_wJ); exact rfl; omega)
    | ((with_reducible apply lm_wB); (first | exact rfl | exact lm_arB (by omega) | exact lm_arM (by omega)); omega)
    | ((with_reducible apply lm_sAl); (first | exact rfl | exact lm_arB (by omega) | exact lm_arM (by omega)); omega)
    | ((with_reducible apply lm_iW); decide))
  refine lm_cI (lm_u49 (d := d + 5) true) ?_
  refine lm_iT (show ¬ (1 : Int32) = 0 by decide) ?_
  rw [lm_K13, lm_K14]
  refine lm_neT (by omega) (by omega) (by omega) ?_
  refine lm_neT (by omega) (by omega) (by omega) ?_
  refine lm_gtT (by omega) (by omega) (by omega) ?_
  refine lm_e20_75 ?_
  unfold lm_q20_75
  refine lm_e20_83 ?_
  unfold lm_q20_83
  rw [lm_K13, lm_K15]
  refine lm_geT (by omega) (by omega) (by omega) ?_
  refine lm_geT (by omega) (by omega) (by omega) ?_
  rcases hkb with ⟨c, c2⟩ | ⟨c, c2⟩
  · subst c c2
    refine lm_neF (by omega) (by omega) (by omega) ?_
    exact tail _ rfl
  · subst c c2
    refine lm_neT (by omega) (by omega) (by omega) ?_
    exact tail _ rfl
end LMD6
