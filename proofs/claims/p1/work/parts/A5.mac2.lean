/-! ===== the end of the class's HMAC ===== -/
/-- the outer hash: its value before the padding -/
def lm_mo (T : lm_TB) (b : Nat) (kb : Nat → Int32) (h h0 : lm_HV) : lm_HV := lm_hps T b (lm_rate b) (lm_ou T b (lm_rate b) (lm_hf T b (lm_rate b) h).2.2.1) (lm_dg b) 0 (lm_hps T b (lm_rate b) (fun i => kb i ^^^ Int32.ofInt 92) (lm_rate b) 0 h0)
section LMMC
variable {xs : List Int32} {d b l : Nat} {m : lm_MI} {n nr : lm_ML} {x : lm_H × Nat × Nat} {T : lm_TB} {J : Nat → Int64} {bb : Nat → Int32} {h : lm_HV}
theorem lm_u141 (hT : lm_Tok (lm_sc xs) T) (hI : lm_Iok nr) (g1 : m 11 1 = Int32.ofNat 64) (g2 : m 17 1 = Int32.ofNat 128) (h1 : 1 ≤ b) (h2 : b ≤ 6) {q v a L : Nat} (hq : q < 5 ∨ 25 < q) (har : lm_ar q = some (1, v)) (hlv : a + L ≤ v) (hv : v ≤ 70000) (hL : L ≤ lm_dg b) {h0 : lm_HV} (e0 : h0 = (0, Int64.ofNat 0, lm_st0' (nr 215) (nr 217) (nr 218) b J, bb)) {kb : Nat → Int32} (hk : ∀ i, i < 128 → lm_b8 (m 23 i) = lm_b8 (kb i ^^^ Int32.ofInt 54)) (hf : h.1 < lm_rate b) (hC : lm_CS m n b h) : ∃ m' n', lm_cal (lm_sc xs) (d + 5) 141 [.ref 4, .int (Int32.ofNat b), .ref q, .int (Int32.ofNat a), .int (Int32.ofNat L)] (lm_w m n x) = some (.ok none, lm_w (lm_fil m' q a (a + L) (fun i => lm_ou T b (lm_rate b) (lm_hf T b (lm_rate b) (lm_mo T b kb h h0)).2.2.1 (i - a))) n' x) ∧ lm_fD m n m' n' := by
  have hrp := lm_rate_pos b
  have h12 : b ≤ 12 := by omega
  have hr128 : lm_rate b ≤ 128 := by
    have := lm_rate_k h1 h12
    split at this
    · omega
    · omega
  have hdg := lm_dg_le b
  have h00 : h0.1 < lm_rate b := by rw [e0]; show 0 < lm_rate b; omega
  have hdk := lm_dg_k h1 h12
  obtain ⟨m1, n1, e1, f1⟩ := lm_cfin (xs := xs) (d := d) (x := x) (q := 24) (v := 64) (a := 0) (l := lm_dg b) hT h1 h12 (by omega) rfl (by omega) (by omega) hdk hf hC
  rw [Nat.zero_add] at e1
  have f1C := f1.C h1 h12
  generalize eg : (fun i => lm_ou T b (lm_rate b) (lm_hf T b (lm_rate b) h).2.2.1 (i - 0)) = go at e1
  have fA := f1C.D.tr (lm_fD.f (m := m1) (n := n1) (q := 24) (a := 0) (b := lm_dg b) (g := go) (Or.inr (Or.inl rfl)))
  obtain ⟨m2, n2, e2, C2, f2⟩ := lm_cstt (xs := xs) (d := d + 1) (x := x) (k := b) (m := lm_fil m1 24 0 (lm_dg b) go) (n := n1) h1 h12 (fA.2.2.1.trans g1) (fA.2.2.2.trans g2) hI (J := J) (b := bb)
  rw [← e0] at C2
  have C3 : lm_CS (lm_fil m2 23 0 128 (fun i => lm_b8 (lm_b8 (m2 23 i) ^^^ lm_b8 (Int32.ofInt 106)))) n2 b h0 := lm_CS_m h1 h12 C2 (fun p _ _ => lm_fl_row (by omega)) (fun _ _ _ => rfl)
  have k3 : ∀ i, i < 128 → lm_b8 (lm_fil m2 23 0 128 (fun i => lm_b8 (lm_b8 (m2 23 i) ^^^ lm_b8 (Int32.ofInt 106))) 23 i) = lm_b8 (kb i ^^^ Int32.ofInt 92) := fun i hi => by
    rw [lm_fl_in (by omega), lm_b8b, f2.1 23 (by omega), lm_fl_row (by decide), f1C.1 23 (by omega), hk i hi, show lm_b8 (Int32.ofInt 106) = Int32.ofInt 106 by decide, lm_b8x, Int32.xor_assoc]
    exact congrArg (fun z => lm_b8 (kb i ^^^ z)) (by decide)
  have fB := (fA.tr f2.D).tr (lm_fD.f (m := m2) (n := n2) (q := 23) (a := 0) (b := 128) (g := fun i => lm_b8 (lm_b8 (m2 23 i) ^^^ lm_b8 (Int32.ofInt 106))) (Or.inl rfl))
  obtain ⟨m4, n4, e4, C4, f4⟩ := lm_cadd (xs := xs) (d := d) (x := x) (q := 23) (v := 128) (a := 0) (l := lm_rate b) hT h1 h12 (by omega) rfl (by omega) (by omega) h00 C3
  rw [lm_hps_b8 (g' := fun i => kb i ^^^ Int32.ofInt 92) (show ¬ 6 < b by omega) (lm_rate b) 0 h0 (fun i _ hi => by rw [lm_b8b]; exact k3 i (by omega))] at C4
  have f4C := f4.C h1 h12
  obtain ⟨m5, n5, e5, C5, f5⟩ := lm_cadd (xs := xs) (d := d) (x := x) (q := 24) (v := 64) (a := 0) (l := lm_dg b) hT h1 h12 (by omega) rfl (by omega) (by omega) (lm_hps_f _ _ _ h00) C4
  have f5C := f5.C h1 h12
  have e24 : ∀ i, i < lm_dg b → m4 24 i = go i := fun i hi => by
    rw [f4C.1 24 (by omega), lm_fl_row (by decide), f2.1 24 (by omega), lm_fl_in (by omega)]
  rw [lm_hps_b8 (g := fun i => lm_b8 (m4 24 i)) (g' := lm_ou T b (lm_rate b) (lm_hf T b (lm_rate b) h).2.2.1) (show ¬ 6 < b by omega) (lm_dg b) 0 _ (fun i _ hi => by rw [lm_b8b, e24 i (by omega), ← eg]; rfl)] at C5
  obtain ⟨m6, n6, e6, f6⟩ := lm_cfin (xs := xs) (d := d) (x := x) (q := q) (v := v) (a := a) (l := L) hT h1 h12 (by omega) har hlv hv (fun h6 => ⟨by have := hdk h6; omega, fun hr => by have := (hdk h6).2 hr; omega⟩) (lm_hps_f _ _ _ (lm_hps_f _ _ _ h00)) C5
  have f6C := f6.C h1 h12
  refine ⟨m6, n6, ?_, ((fB.tr f4C.D).tr f5C.D).tr f6C.D⟩
  refine lm_cal_of (Y := lm_m141) rfl rfl (lm_e141_0 ?_)
  unfold lm_q141_0
  rw [lm_K0]
  repeat (first
    | ((with_reducible apply lm_sI); exact rfl)
    | ((with_reducible apply lm_sR); exact rfl)
    | ((with_reducible apply lm_sS); exact rfl; exact rfl)
    | ((with_reducible apply lm_sL); exact rfl)
    | ((with_reducible apply lm_sP); exact rfl; exact rfl)
    | ((with_reducible apply lm_sPL); exact rfl; exact rfl)
    | ((with_reducible apply lm_sAA); exact rfl; first | exact rfl | exact lm_roO (by omega) | exact lm_roM (by omega))
    | ((with_reducible apply lm_sI); exact lm_fpL (by omega))
    | ((with_reducible apply lm_sR); exact lm_fpB (by omega))
    | ((with_reducible apply lm_sP); exact lm_fpL (by omega); exact rfl)
    | ((with_reducible apply lm_sS); exact lm_ocO (by omega); exact rfl)
    | ((with_reducible apply lm_sA); exact rfl; omega)
    | ((with_reducible apply lm_sJ); exact rfl; omega)
    | ((with_reducible apply lm_sB); (first | exact rfl | exact lm_arB (by omega) | exact lm_arM (by omega)); omega)
    | ((with_reducible apply lm_wA); exact rfl; omega)
    | ((with_reducible apply lm_wJ); exact rfl; omega)
    | ((with_reducible apply lm_wB); (first | exact rfl | exact lm_arB (by omega) | exact lm_arM (by omega)); omega)
    | ((with_reducible apply lm_sAl); (first | exact rfl | exact lm_arB (by omega) | exact lm_arM (by omega)); omega)
    | ((with_reducible apply lm_iW); decide))
  refine lm_cR (lm_u204 (d := d + 3) h12 h1) ?_
  repeat (first
    | ((with_reducible apply lm_sI); exact rfl)
    | ((with_reducible apply lm_sR); exact rfl)
    | ((with_reducible apply lm_sS); exact rfl; exact rfl)
    | ((with_reducible apply lm_sL); exact rfl)
    | ((with_reducible apply lm_sP); exact rfl; exact rfl)
    | ((with_reducible apply lm_sPL); exact rfl; exact rfl)
    | ((with_reducible apply lm_sAA); exact rfl; first | exact rfl | exact lm_roO (by omega) | exact lm_roM (by omega))
    | ((with_reducible apply lm_sI); exact lm_fpL (by omega))
    | ((with_reducible apply lm_sR); exact lm_fpB (by omega))
    | ((with_reducible apply lm_sP); exact lm_fpL (by omega); exact rfl)
    | ((with_reducible apply lm_sS); exact lm_ocO (by omega); exact rfl)
    | ((with_reducible apply lm_sA); exact rfl; omega)
    | ((with_reducible apply lm_sJ); exact rfl; omega)
    | ((with_reducible apply lm_sB); (first | exact rfl | exact lm_arB (by omega) | exact lm_arM (by omega)); omega)
    | ((with_reducible apply lm_wA); exact rfl; omega)
    | ((with_reducible apply lm_wJ); exact rfl; omega)
    | ((with_reducible apply lm_wB); (first | exact rfl | exact lm_arB (by omega) | exact lm_arM (by omega)); omega)
    | ((with_reducible apply lm_sAl); (first | exact rfl | exact lm_arB (by omega) | exact lm_arM (by omega)); omega)
    | ((with_reducible apply lm_iW); decide))
  refine lm_sSI h1 h12 ?_
  refine lm_selF h1 h12 ?_
  refine lm_cV e1 ?_
  repeat (first
    | ((with_reducible apply lm_sI); exact rfl)
    | ((with_reducible apply lm_sR); exact rfl)
    | ((with_reducible apply lm_sS); exact rfl; exact rfl)
    | ((with_reducible apply lm_sL); exact rfl)
    | ((with_reducible apply lm_sP); exact rfl; exact rfl)
    | ((with_reducible apply lm_sPL); exact rfl; exact rfl)
    | ((with_reducible apply lm_sAA); exact rfl; first | exact rfl | exact lm_roO (by omega) | exact lm_roM (by omega))
    | ((with_reducible apply lm_sI); exact lm_fpL (by omega))
    | ((with_reducible apply lm_sR); exact lm_fpB (by omega))
    | ((with_reducible apply lm_sP); exact lm_fpL (by omega); exact rfl)
    | ((with_reducible apply lm_sS); exact lm_ocO (by omega); exact rfl)
    | ((with_reducible apply lm_sA); exact rfl; omega)
    | ((with_reducible apply lm_sJ); exact rfl; omega)
    | ((with_reducible apply lm_sB); (first | exact rfl | exact lm_arB (by omega) | exact lm_arM (by omega)); omega)
    | ((with_reducible apply lm_wA); exact rfl; omega)
    | ((with_reducible apply lm_wJ); exact rfl; omega)
    | ((with_reducible apply lm_wB); (first | exact rfl | exact lm_arB (by omega) | exact lm_arM (by omega)); omega)
    | ((with_reducible apply lm_sAl); (first | exact rfl | exact lm_arB (by omega) | exact lm_arM (by omega)); omega)
    | ((with_reducible apply lm_iW); decide))
  refine lm_cR e2 ?_
  repeat (first
    | ((with_reducible apply lm_sI); exact rfl)
    | ((with_reducible apply lm_sR); exact rfl)
    | ((with_reducible apply lm_sS); exact rfl; exact rfl)
    | ((with_reducible apply lm_sL); exact rfl)
    | ((with_reducible apply lm_sP); exact rfl; exact rfl)
    | ((with_reducible apply lm_sPL); exact rfl; exact rfl)
    | ((with_reducible apply lm_sAA); exact rfl; first | exact rfl | exact lm_roO (by omega) | exact lm_roM (by omega))
    | ((with_reducible apply lm_sI); exact lm_fpL (by omega))
    | ((with_reducible apply lm_sR); exact lm_fpB (by omega))
    | ((with_reducible apply lm_sP); exact lm_fpL (by omega); exact rfl)
    | ((with_reducible apply lm_sS); exact lm_ocO (by omega); exact rfl)
    | ((with_reducible apply lm_sA); exact rfl; omega)
    | ((with_reducible apply lm_sJ); exact rfl; omega)
    | ((with_reducible apply lm_sB); (first | exact rfl | exact lm_arB (by omega) | exact lm_arM (by omega)); omega)
    | ((with_reducible apply lm_wA); exact rfl; omega)
    | ((with_reducible apply lm_wJ); exact rfl; omega)
    | ((with_reducible apply lm_wB); (first | exact rfl | exact lm_arB (by omega) | exact lm_arM (by omega)); omega)
    | ((with_reducible apply lm_sAl); (first | exact rfl | exact lm_arB (by omega) | exact lm_arM (by omega)); omega)
    | ((with_reducible apply lm_iW); decide))
  refine lm_cV (lm_u203 (d := d + 3)) ?_
  repeat (first
    | ((with_reducible apply lm_sI); exact rfl)
    | ((with_reducible apply lm_sR); exact rfl)
    | ((with_reducible apply lm_sS); exact rfl; exact rfl)
    | ((with_reducible apply lm_sL); exact rfl)
    | ((with_reducible apply lm_sP); exact rfl; exact rfl)
    | ((with_reducible apply lm_sPL); exact rfl; exact rfl)
    | ((with_reducible apply lm_sAA); exact rfl; first | exact rfl | exact lm_roO (by omega) | exact lm_roM (by omega))
    | ((with_reducible apply lm_sI); exact lm_fpL (by omega))
    | ((with_reducible apply lm_sR); exact lm_fpB (by omega))
    | ((with_reducible apply lm_sP); exact lm_fpL (by omega); exact rfl)
    | ((with_reducible apply lm_sS); exact lm_ocO (by omega); exact rfl)
    | ((with_reducible apply lm_sA); exact rfl; omega)
    | ((with_reducible apply lm_sJ); exact rfl; omega)
    | ((with_reducible apply lm_sB); (first | exact rfl | exact lm_arB (by omega) | exact lm_arM (by omega)); omega)
    | ((with_reducible apply lm_wA); exact rfl; omega)
    | ((with_reducible apply lm_wJ); exact rfl; omega)
    | ((with_reducible apply lm_wB); (first | exact rfl | exact lm_arB (by omega) | exact lm_arM (by omega)); omega)
    | ((with_reducible apply lm_sAl); (first | exact rfl | exact lm_arB (by omega) | exact lm_arM (by omega)); omega)
    | ((with_reducible apply lm_iW); decide))
  refine lm_CS_r h1 h12 C3 ?_
  refine lm_selA h1 h12 ?_
  refine lm_cV e4 ?_
  repeat (first
    | ((with_reducible apply lm_sI); exact rfl)
    | ((with_reducible apply lm_sR); exact rfl)
    | ((with_reducible apply lm_sS); exact rfl; exact rfl)
    | ((with_reducible apply lm_sL); exact rfl)
    | ((with_reducible apply lm_sP); exact rfl; exact rfl)
    | ((with_reducible apply lm_sPL); exact rfl; exact rfl)
    | ((with_reducible apply lm_sAA); exact rfl; first | exact rfl | exact lm_roO (by omega) | exact lm_roM (by omega))
    | ((with_reducible apply lm_sI); exact lm_fpL (by omega))
    | ((with_reducible apply lm_sR); exact lm_fpB (by omega))
    | ((with_reducible apply lm_sP); exact lm_fpL (by omega); exact rfl)
    | ((with_reducible apply lm_sS); exact lm_ocO (by omega); exact rfl)
    | ((with_reducible apply lm_sA); exact rfl; omega)
    | ((with_reducible apply lm_sJ); exact rfl; omega)
    | ((with_reducible apply lm_sB); (first | exact rfl | exact lm_arB (by omega) | exact lm_arM (by omega)); omega)
    | ((with_reducible apply lm_wA); exact rfl; omega)
    | ((with_reducible apply lm_wJ); exact rfl; omega)
    | ((with_reducible apply lm_wB); (first | exact rfl | exact lm_arB (by omega) | exact lm_arM (by omega)); omega)
    | ((with_reducible apply lm_sAl); (first | exact rfl | exact lm_arB (by omega) | exact lm_arM (by omega)); omega)
    | ((with_reducible apply lm_iW); decide))
  refine lm_sSI h1 h12 ?_
  refine lm_selA h1 h12 ?_
  refine lm_cV e5 ?_
  refine lm_selF h1 h12 ?_
  refine lm_cV e6 ?_
  exact rfl
end LMMC
