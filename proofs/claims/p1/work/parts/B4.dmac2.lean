/-! ===== digest, HMAC, of the reference ===== -/
section LMD4
variable {sc : lm_H} {d k b w l l2 : Nat} {m : lm_MI} {n : lm_ML} {x : lm_H × Nat × Nat}
theorem lm_u20m (hkb : (k = 13 ∧ b = 1) ∨ (k = 14 ∧ b = 3)) (hw : w ≤ 65536) (hm0 : m 214 0 = Int32.ofNat l) (hl : l ≤ 65536) (hm : m 214 3 = Int32.ofNat l2) (hl2 : l2 ≤ 65536) : ∃ m1 n1, lm_cal sc (d + 7) 20 [.ref 203, .int (Int32.ofNat k), .int (Int32.ofNat w)] (lm_w m n x) = some (.ok (some (.int (Int32.ofNat (lm_dg b)))), lm_w (lm_u (lm_fil m1 212 0 (lm_dg b) (lm_hv m n b 206 l 209 l2)) 214 6 (Int32.ofNat (lm_dg b))) n1 x) ∧ lm_fg (lm_u m 203 4 0) n m1 n1 := by
  have hdg := lm_dg_le b
  have hrp := lm_rate_pos b
  have h1 : 1 ≤ b := by omega
  have h2 : b ≤ 6 := by omega
  have h12 : b ≤ 12 := by omega
  have hkr := lm_kr_rate (k := b) h12
  have h00 : (lm_h0 m n b).1 < lm_rate b := by show 0 < lm_rate b; omega
  have tb0 : lm_tb (lm_u m 203 4 0) n = lm_tb m n := by unfold lm_tb; rw [lm_u_row (by decide)]
  obtain ⟨m2, n2, h2', e2, S2, H2, K2, f2⟩ := lm_u64 (sc := sc) (d := d) (x := x) (b := b) (l := l) (m := lm_u m 203 4 0) (n := n) (q := 206) (v := 65536) (h0 := lm_h0 m n b) (J := n 223) (bb := m 227) h1 h2 ⟨by decide, by decide, by decide, by decide⟩ rfl hl (by decide) rfl
  rw [tb0, lm_u_row (show 206 ≠ 203 by decide)] at H2 K2
  have l2' : h2'.1 < lm_rate b := by rw [H2.1]; exact lm_hps_f _ _ _ h00
  obtain ⟨m3, n3, e3, S3, f3⟩ := lm_u62 (sc := sc) (d := d + 2) (x := x) (q := 209) (v := 65536) (a := 0) (l := l2) hkr ⟨by decide, by decide⟩ rfl (by omega) (by omega) l2' S2
  rw [f2.1 209 (by decide) (by decide) (by decide) (by decide), lm_u_row (show 209 ≠ 203 by decide), f2.tb, tb0] at S3
  obtain ⟨m4, n4, e4, f4⟩ := lm_u65 (sc := sc) (d := d) (x := x) (b := b) (m := m3) (n := n3) (q := 212) (v := 65536) (a := 0) (L := lm_dg b) (h0 := lm_h0 m n b) (J := n 223) (bb := m 227) (kb := lm_kb (lm_tb m n) b (m 206) l (lm_h0 m n b)) h1 h2 ⟨by decide, by decide, by decide, by decide, by decide⟩ rfl (by omega) (by decide) (by omega) (by
      have fg := f2.tr f3.g
      rw [fg.2.2 215 (by decide) (by decide) (by decide) (by decide) (by decide), fg.2.2 217 (by decide) (by decide) (by decide) (by decide) (by decide), fg.2.2 218 (by decide) (by decide) (by decide) (by decide) (by decide)]
      rfl) (fun i hi => by rw [f3.1 228 (by decide) (by decide)]; exact K2 i hi) (lm_hps_f _ _ _ l2') S3 (lm_he_hps hkr _ 0 _ _ l2' H2)
  rw [Nat.zero_add, f3.tb, f2.tb, tb0] at e4
  refine ⟨m4, n4, ?_, (f2.tr f3.g).tr f4⟩
  have tail : ∀ z : Int32, z = Int32.ofNat b → lm_rn sc (d + 6) lm_m20.2.2.2.2.1 (lm_reg lm_m20.2.2.2.2.2) (145, [(0, .ref 203), (3, .int (Int32.ofNat (lm_dg b)))], [.int z]) (lm_w (lm_u m 203 4 0) n x) = some (.ok (some (.int (Int32.ofNat (lm_dg b)))), lm_w (lm_u (lm_fil m4 212 0 (lm_dg b) (lm_hv m n b 206 l 209 l2)) 214 6 (Int32.ofNat (lm_dg b))) n4 x) := by
    intro z hz
    subst hz
    refine lm_e20_145 ?_
    unfold lm_q20_145
    rw [lm_K0, lm_K3, lm_K6]
    repeat (first
    | ((with_reducible apply lm_sI); exact rfl)
    | ((with_reducible apply lm_sR); exact rfl)
    | ((with_reducible apply lm_sS); exact rfl; exact rfl)
    | ((with_reducible apply lm_sL); exact rfl)
    | ((with_reducible apply lm_sP); exact rfl; exact rfl)
    | ((with_reducible apply lm_sPL); exact rfl; exact rfl)
    | ((with_reducible apply lm_sAA); exact rfl; first | exact rfl | exact lm_roO (by omega) | exact lm_roM (by omega))
    | ((with_reducible apply lm_sI); exact lm_fpL (by omega))
    | ((with_reducible apply lm_sR); exact lm_fpB (by omega))
    | ((with_reducible apply lm_sP); exact lm_fpL (by omega); exact rfl)
    | ((with_reducible apply lm_sS); exact lm_ocO (by omega); exact rfl)
    | ((with_reducible apply lm_sA); exact rfl; omega)
    | ((with_reducible apply lm_sJ); exact rfl; omega)
    | ((with_reducible apply lm_sB); (first | exact rfl | exact lm_arB (by omega) | exact lm_arM (by omega)); omega)
    | ((with_reducible apply lm_wA); exact rfl; omega)
    | ((with_reducible apply lm_wJ); exact rfl; omega)
    | ((with_reducible apply lm_wB); (first | exact rfl | exact lm_arB (by omega) | exact lm_arM (by omega)); omega)
    | ((with_reducible apply lm_sAl); (first | exact rfl | exact lm_arB (by omega) | exact lm_arM (by omega)); omega)
    | ((with_reducible apply lm_iW); decide))
    rw [lm_u_row (by decide), hm0]
    repeat (first
    | ((with_reducible apply lm_sI); exact rfl)
    | ((with_reducible apply lm_sR); exact rfl)
    | ((with_reducible apply lm_sS); exact rfl; exact rfl)
    | ((with_reducible apply lm_sL); exact rfl)
    | ((with_reducible apply lm_sP); exact rfl; exact rfl)
    | ((with_reducible apply lm_sPL); exact rfl; exact rfl)
    | ((with_reducible apply lm_sAA); exact rfl; first | exact rfl | exact lm_roO (by omega) | exact lm_roM (by omega))
    | ((with_reducible apply lm_sI); exact lm_fpL (by omega))
    | ((with_reducible apply lm_sR); exact lm_fpB (by omega))
    | ((with_reducible apply lm_sP); exact lm_fpL (by omega); exact rfl)
    | ((with_reducible apply lm_sS); exact lm_ocO (by omega); exact rfl)
    | ((with_reducible apply lm_sA); exact rfl; omega)
    | ((with_reducible apply lm_sJ); exact rfl; omega)
    | ((with_reducible apply lm_sB); (first | exact rfl | exact lm_arB (by omega) | exact lm_arM (by omega)); omega)
    | ((with_reducible apply lm_wA); exact rfl; omega)
    | ((with_reducible apply lm_wJ); exact rfl; omega)
    | ((with_reducible apply lm_wB); (first | exact rfl | exact lm_arB (by omega) | exact lm_arM (by omega)); omega)
    | ((with_reducible apply lm_sAl); (first | exact rfl | exact lm_arB (by omega) | exact lm_arM (by omega)); omega)
    | ((with_reducible apply lm_iW); decide))
    refine lm_cV e2 ?_
    repeat (first
    | ((with_reducible apply lm_sI); exact rfl)
    | ((with_reducible apply lm_sR); exact rfl)
    | ((with_reducible apply lm_sS); exact rfl; exact rfl)
    | ((with_reducible apply lm_sL); exact rfl)
    | ((with_reducible apply lm_sP); exact rfl; exact rfl)
    | ((with_reducible apply lm_sPL); exact rfl; exact rfl)
    | ((with_reducible apply lm_sAA); exact rfl; first | exact rfl | exact lm_roO (by omega) | exact lm_roM (by omega))
    | ((with_reducible apply lm_sI); exact lm_fpL (by omega))
    | ((with_reducible apply lm_sR); exact lm_fpB (by omega))
    | ((with_reducible apply lm_sP); exact lm_fpL (by omega); exact rfl)
    | ((with_reducible apply lm_sS); exact lm_ocO (by omega); exact rfl)
    | ((with_reducible apply lm_sA); exact rfl; omega)
    | ((with_reducible apply lm_sJ); exact rfl; omega)
    | ((with_reducible apply lm_sB); (first | exact rfl | exact lm_arB (by omega) | exact lm_arM (by omega)); omega)
    | ((with_reducible apply lm_wA); exact rfl; omega)
    | ((with_reducible apply lm_wJ); exact rfl; omega)
    | ((with_reducible apply lm_wB); (first | exact rfl | exact lm_arB (by omega) | exact lm_arM (by omega)); omega)
    | ((with_reducible apply lm_sAl); (first | exact rfl | exact lm_arB (by omega) | exact lm_arM (by omega)); omega)
    | ((with_reducible apply lm_iW); decide))
    rw [f2.1 214 (by decide) (by decide) (by decide) (by decide), lm_u_row (by decide), hm]
    repeat (first
    | ((with_reducible apply lm_sI); exact rfl)
    | ((with_reducible apply lm_sR); exact rfl)
    | ((with_reducible apply lm_sS); exact rfl; exact rfl)
    | ((with_reducible apply lm_sL); exact rfl)
    | ((with_reducible apply lm_sP); exact rfl; exact rfl)
    | ((with_reducible apply lm_sPL); exact rfl; exact rfl)
    | ((with_reducible apply lm_sAA); exact rfl; first | exact rfl | exact lm_roO (by omega) | exact lm_roM (by omega))
    | ((with_reducible apply lm_sI); exact lm_fpL (by omega))
    | ((with_reducible apply lm_sR); exact lm_fpB (by omega))
    | ((with_reducible apply lm_sP); exact lm_fpL (by omega); exact rfl)
    | ((with_reducible apply lm_sS); exact lm_ocO (by omega); exact rfl)
    | ((with_reducible apply lm_sA); exact rfl; omega)
    | ((with_reducible apply lm_sJ); exact rfl; omega)
    | ((with_reducible apply lm_sB); (first | exact rfl | exact lm_arB (by omega) | exact lm_arM (by omega)); omega)
    | ((with_reducible apply lm_wA); exact rfl; omega)
    | ((with_reducible apply lm_wJ); exact rfl; omega)
    | ((with_reducible apply lm_wB); (first | exact rfl | exact lm_arB (by omega) | exact lm_arM (by omega)); omega)
    | ((with_reducible apply lm_sAl); (first | exact rfl | exact lm_arB (by omega) | exact lm_arM (by omega)); omega)
    | ((with_reducible apply lm_iW); decide))
    refine lm_cV e3 ?_
    repeat (first
    | ((with_reducible apply lm_sI); exact rfl)
    | ((with_reducible apply lm_sR); exact rfl)
    | ((with_reducible apply lm_sS); exact rfl; exact rfl)
    | ((with_reducible apply lm_sL); exact rfl)
    | ((with_reducible apply lm_sP); exact rfl; exact rfl)
    | ((with_reducible apply lm_sPL); exact rfl; exact rfl)
    | ((with_reducible apply lm_sAA); exact rfl; first | exact rfl | exact lm_roO (by omega) | exact lm_roM (by omega))
    | ((with_reducible apply lm_sI); exact lm_fpL (by omega))
    | ((with_reducible apply lm_sR); exact lm_fpB (by omega))
    | ((with_reducible apply lm_sP); exact lm_fpL (by omega); exact rfl)
    | ((with_reducible apply lm_sS); exact lm_ocO (by omega); exact rfl)
    | ((with_reducible apply lm_sA); exact rfl; omega)
    | ((with_reducible apply lm_sJ); exact rfl; omega)
    | ((with_reducible apply lm_sB); (first | exact rfl | exact lm_arB (by omega) | exact lm_arM (by omega)); omega)
    | ((with_reducible apply lm_wA); exact rfl; omega)
    | ((with_reducible apply lm_wJ); exact rfl; omega)
    | ((with_reducible apply lm_wB); (first | exact rfl | exact lm_arB (by omega) | exact lm_arM (by omega)); omega)
    | ((with_reducible apply lm_sAl); (first | exact rfl | exact lm_arB (by omega) | exact lm_arM (by omega)); omega)
    | ((with_reducible apply lm_iW); decide))
    refine lm_cV e4 ?_
    refine lm_e20_237 ?_
    unfold lm_q20_237
    rw [lm_K6]
    repeat (first
    | ((with_reducible apply lm_sI); exact rfl)
    | ((with_reducible apply lm_sR); exact rfl)
    | ((with_reducible apply lm_sS); exact rfl; exact rfl)
    | ((with_reducible apply lm_sL); exact rfl)
    | ((with_reducible apply lm_sP); exact rfl; exact rfl)
    | ((with_reducible apply lm_sPL); exact rfl; exact rfl)
    | ((with_reducible apply lm_sAA); exact rfl; first | exact rfl | exact lm_roO (by omega) | exact lm_roM (by omega))
    | ((with_reducible apply lm_sI); exact lm_fpL (by omega))
    | ((with_reducible apply lm_sR); exact lm_fpB (by omega))
    | ((with_reducible apply lm_sP); exact lm_fpL (by omega); exact rfl)
    | ((with_reducible apply lm_sS); exact lm_ocO (by omega); exact rfl)
    | ((with_reducible apply lm_sA); exact rfl; omega)
    | ((with_reducible apply lm_sJ); exact rfl; omega)
    | ((with_reducible apply lm_sB); (first | exact rfl | exact lm_arB (by omega) | exact lm_arM (by omega)); omega)
    | ((with_reducible apply lm_wA); exact rfl; omega)
    | ((with_reducible apply lm_wJ); exact rfl; omega)
    | ((with_reducible apply lm_wB); (first | exact rfl | exact lm_arB (by omega) | exact lm_arM (by omega)); omega)
    | ((with_reducible apply lm_sAl); (first | exact rfl | exact lm_arB (by omega) | exact lm_arM (by omega)); omega)
    | ((with_reducible apply lm_iW); decide))
    exact rfl
  refine lm_cal_of (Y := lm_m20) rfl rfl (lm_e20_0 ?_)
  unfold lm_q20_0
  refine lm_cI (lm_t52t (d := d + 5) ⟨by rw [lm_K1]; exact (lm_le32 (by omega) (by omega)).mpr (by omega), by rw [lm_K16]; exact (lm_le32 (by omega) (by omega)).mpr (by omega)⟩) ?_
  refine lm_iF (show ¬ (1 : Int32) = 0 by decide) ?_
  refine lm_cI (lm_t52n (i := w) (n := 65536) (d := d + 5) hw (by decide)) ?_
  refine lm_iF (show ¬ (1 : Int32) = 0 by decide) ?_
  refine lm_e20_26 ?_
  unfold lm_q20_26
  repeat (first
    | ((with_reducible apply lm_sI); exact rfl)
    | ((with_reducible apply lm_sR); exact rfl)
    | ((with_reducible apply lm_sS); exact rfl; exact rfl)
    | ((with_reducible apply lm_sL); exact rfl)
    | ((with_reducible apply lm_sP); exact rfl; exact rfl)
    | ((with_reducible apply lm_sPL); exact rfl; exact rfl)
    | ((with_reducible apply lm_sAA); exact rfl; first | exact rfl | exact lm_roO (by omega) | exact lm_roM (by omega))
    | ((with_reducible apply lm_sI); exact lm_fpL (by omega))
    | ((with_reducible apply lm_sR); exact lm_fpB (by omega))
    | ((with_reducible apply lm_sP); exact lm_fpL (by omega); exact rfl)
    | ((with_reducible apply lm_sS); exact lm_ocO (by omega); exact rfl)
    | ((with_reducible apply lm_sA); exact rfl; omega)
    | ((with_reducible apply lm_sJ); exact rfl; omega)
    | ((with_reducible apply lm_sB); (first | exact rfl | exact lm_arB (by omega) | exact lm_arM (by omega)); omega)
    | ((with_reducible apply lm_wA); exact rfl; omega)
    | ((with_reducible apply lm_wJ); exact rfl; omega)
    | ((with_reducible apply lm_wB); (first | exact rfl | exact lm_arB (by omega) | exact lm_arM (by omega)); omega)
    | ((with_reducible apply lm_sAl); (first | exact rfl | exact lm_arB (by omega) | exact lm_arM (by omega)); omega)
    | ((with_reducible apply lm_iW); decide))
  refine lm_cI (lm_u49 (d := d + 5) true) ?_
  refine lm_iT (show ¬ (1 : Int32) = 0 by decide) ?_
  rw [lm_K13, lm_K14]
  rcases hkb with ⟨c, c2⟩ | ⟨c, c2⟩
  · subst c c2
    refine lm_neF (by omega) (by omega) (by omega) ?_
    refine lm_e20_83 ?_
    unfold lm_q20_83
    rw [lm_K13, lm_K15]
    refine lm_geT (by omega) (by omega) (by omega) ?_
    refine lm_geF (by omega) (by omega) (by omega) ?_
    refine lm_neF (by omega) (by omega) (by omega) ?_
    exact tail _ rfl
  · subst c c2
    refine lm_neT (by omega) (by omega) (by omega) ?_
    refine lm_neF (by omega) (by omega) (by omega) ?_
    refine lm_e20_83 ?_
    unfold lm_q20_83
    rw [lm_K13, lm_K15]
    refine lm_geT (by omega) (by omega) (by omega) ?_
    refine lm_geF (by omega) (by omega) (by omega) ?_
    refine lm_neT (by omega) (by omega) (by omega) ?_
    exact tail _ rfl
end LMD4
