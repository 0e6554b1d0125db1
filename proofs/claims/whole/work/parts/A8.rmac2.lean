/-! ===== the end of the reference's HMAC ===== -/
section LMRN
variable {sc : lm_H} {d b l : Nat} {m : lm_MI} {n : lm_ML} {x : lm_H × Nat × Nat} {h : lm_HV}
theorem lm_l65p (hb2 : b ≤ 6) (hr128 : lm_rate b ≤ 128) {m0 : lm_MI} {n0 : lm_ML} {q a L : Nat} {Q : Option (Except Nat lm_R × lm_S) → Prop} : ∀ j t (m1 : lm_MI) (n1 : lm_ML) (h1 : lm_HV), t + j = lm_rate b → h1.1 < lm_rate b → lm_HS m1 n1 b (lm_rate b) h1 → lm_fh m0 n0 m1 n1 → (∀ m2 n2, lm_HS m2 n2 b (lm_rate b) (lm_hps (lm_tb m0 n0) b (lm_rate b) (fun i => lm_b8 (m0 228 i) ^^^ Int32.ofInt 92) j t h1) → lm_fh m0 n0 m2 n2 → Q (lm_rn sc (d + 3) lm_m65.2.2.2.2.1 (lm_reg lm_m65.2.2.2.2.2) (27, [(0, .ref 203), (1, .int (Int32.ofNat b)), (2, .ref q), (3, .int (Int32.ofNat a)), (4, .int (Int32.ofNat L)), (5, .int (Int32.ofNat (lm_rate b))), (6, .int (Int32.ofNat (lm_rate b)))], []) (lm_w m2 n2 x))) → (∀ o : Option (Except Nat lm_R × lm_S), Q o → ∃ R, o = some R) → Q (lm_rn sc (d + 3) lm_m65.2.2.2.2.1 (lm_reg lm_m65.2.2.2.2.2) (27, [(0, .ref 203), (1, .int (Int32.ofNat b)), (2, .ref q), (3, .int (Int32.ofNat a)), (4, .int (Int32.ofNat L)), (5, .int (Int32.ofNat (lm_rate b))), (6, .int (Int32.ofNat t))], []) (lm_w m1 n1 x)) := by
  intro j
  induction j with
  | zero =>
    intro t m1 n1 h1 ht hf hS hfr K _
    have ht : t = lm_rate b := ht
    subst ht
    exact K m1 n1 hS hfr
  | succ j ih =>
    intro t m1 n1 h1 ht hf hS hfr K Z
    obtain ⟨m2, n2, c2, s2, f2⟩ := lm_u69 (sc := sc) (d := d) (x := x) (v := lm_b8 (m0 228 t) ^^^ Int32.ofInt 92) (lm_kr_rate (show b ≤ 12 by omega)) hf hS
    rw [hfr.tb] at s2
    have I := ih (t + 1) m2 n2 _ (by omega) (lm_hp_lt hf) s2 (hfr.tr f2) K Z
    obtain ⟨R, eR⟩ := Z _ I
    rw [eR] at I
    have e : lm_rn sc (d + 3) lm_m65.2.2.2.2.1 (lm_reg lm_m65.2.2.2.2.2) (27, [(0, .ref 203), (1, .int (Int32.ofNat b)), (2, .ref q), (3, .int (Int32.ofNat a)), (4, .int (Int32.ofNat L)), (5, .int (Int32.ofNat (lm_rate b))), (6, .int (Int32.ofNat t))], []) (lm_w m1 n1 x) = some R := by
      refine lm_e65_27 ?_
      unfold lm_q65_27
      refine lm_geF (by omega) (by omega) (by omega) ?_
      repeat (first
    | ((with_reducible apply lm_sI); exact rfl)
    | ((with_reducible apply lm_sR); exact rfl)
    | ((with_reducible apply lm_sS); exact rfl; exact rfl)
    | ((with_reducible apply lm_sL); exact rfl)
    | ((with_reducible apply lm_sP); exact rfl; exact rfl)
    | ((with_reducible apply lm_sPL); exact rfl; exact rfl)
    | ((with_reducible apply lm_sAA); exact rfl; first | exact rfl | exact lm_roO (by omega) | exact lm_roM (by omega))
    | ((with_reducible apply lm_sI); exact lm_fpL (by omega))
    | ((with_reducible apply lm_sR); exact lm_fpB (by omega))
    | ((with_reducible apply lm_sP); exact lm_fpL (by omega); exact rfl)
    | ((with_reducible apply lm_sS); exact lm_ocO (by omega); exact rfl)
    | ((with_reducible apply lm_sA); exact rfl; omega)
    | ((with_reducible apply lm_sJ); exact rfl; omega)
    | ((with_reducible apply lm_sB); (first | exact rfl | exact lm_arB (by omega) | exact lm_arM (by omega)); omega)
    | ((with_reducible apply lm_wA); exact rfl; omega)
    | ((with_reducible apply lm_wJ); exact rfl; omega)
    | ((with_reducible apply lm_wB); (first | exact rfl | exact lm_arB (by omega) | exact lm_arM (by omega)); omega)
    | ((with_reducible apply lm_sAl); (first | exact rfl | exact lm_arB (by omega) | exact lm_arM (by omega)); omega)
    | ((with_reducible apply lm_iW); decide))
      rw [hfr.1 228 (by decide) (by decide)]
      refine lm_cV c2 ?_
      rw [show Int32.ofNat t + Int32.ofInt 1 = Int32.ofNat (t + 1) from lm_oa t 1]
      exact eR
    rw [e]
    exact I
theorem lm_u65 (h1 : 1 ≤ b) (h2 : b ≤ 6) {q v a L : Nat} (hq : q ≠ 203 ∧ q ≠ 227 ∧ q ≠ 221 ∧ q ≠ 228 ∧ q ≠ 229) (har : lm_ar q = some (1, v)) (hlv : a + L ≤ v) (hv : v ≤ 70000) (hL : L ≤ lm_dg b) {h0 : lm_HV} {J : Nat → Int64} {bb : Nat → Int32} (e0 : h0 = (0, Int64.ofNat 0, lm_st0' (n 215) (n 217) (n 218) b J, bb)) {kb : Nat → Int32} (hk : ∀ i, i < 128 → lm_b8 (m 228 i) = lm_b8 (kb i)) (hf : h.1 < lm_rate b) (hS : lm_HS m n b (lm_rate b) h) {hc : lm_HV} (he : lm_he b h hc) : ∃ m' n', lm_cal sc (d + 6) 65 [.ref 203, .int (Int32.ofNat b), .ref q, .int (Int32.ofNat a), .int (Int32.ofNat L)] (lm_w m n x) = some (.ok none, lm_w (lm_fil m' q a (a + L) (fun i => lm_ou (lm_tb m n) b (lm_rate b) (lm_hf (lm_tb m n) b (lm_rate b) (lm_mo (lm_tb m n) b kb hc h0)).2.2.1 (i - a))) n' x) ∧ lm_fg m n m' n' := by
  have hrp := lm_rate_pos b
  have h12 : b ≤ 12 := by omega
  have hr128 : lm_rate b ≤ 128 := by
    rw [lm_rate6 h1 h2]
    split <;> omega
  have hdg := lm_dg_le b
  have hdk := lm_dg_k h1 h12 h2
  have hkr := lm_kr_rate (k := b) h12
  have h00 : h0.1 < lm_rate b := by rw [e0]; show 0 < lm_rate b; omega
  obtain ⟨m1, n1, e1, f1⟩ := lm_u63 (sc := sc) (d := d) (x := x) (q := 229) (v := 64) (a := 0) (l := lm_dg b) hkr hrp ⟨by decide, by decide, by decide⟩ rfl (by omega) (by omega) (lm_dg_k h1 h12) hf hS
  rw [Nat.zero_add] at e1
  generalize eg : (fun i => lm_ou (lm_tb m n) b (lm_rate b) (lm_hf (lm_tb m n) b (lm_rate b) h).2.2.1 (i - 0)) = go at e1
  have fA : lm_fg m n (lm_fil m1 229 0 (lm_dg b) go) n1 := f1.g.tr (lm_fg.f (Or.inr rfl))
  obtain ⟨m2, n2, e2, S2, f2⟩ := lm_u61 (sc := sc) (d := d + 3) (x := x) (k := b) (m := lm_fil m1 229 0 (lm_dg b) go) (n := n1) h1 h12
  have start : ∀ R, lm_rn sc (d + 5) lm_m65.2.2.2.2.1 (lm_reg lm_m65.2.2.2.2.2) (27, [(0, .ref 203), (1, .int (Int32.ofNat b)), (2, .ref q), (3, .int (Int32.ofNat a)), (4, .int (Int32.ofNat L)), (5, .int (Int32.ofNat (lm_rate b))), (6, .int (Int32.ofNat 0))], []) (lm_w m2 n2 x) = some R → lm_cal sc (d + 6) 65 [.ref 203, .int (Int32.ofNat b), .ref q, .int (Int32.ofNat a), .int (Int32.ofNat L)] (lm_w m n x) = some R := by
    intro R K
    refine lm_cal_of (Y := lm_m65) rfl rfl (lm_e65_0 ?_)
    unfold lm_q65_0
    refine lm_cI (lm_u146 (d := d + 4) h12) ?_
    rw [← lm_rate6 h1 h2]
    repeat (first
    | ((with_reducible apply lm_sI); exact rfl)
    | ((with_reducible apply lm_sR); exact rfl)
    | ((with_reducible apply lm_sS); exact rfl; exact rfl)
    | ((with_reducible apply lm_sL); exact rfl)
    | ((with_reducible apply lm_sP); exact rfl; exact rfl)
    | ((with_reducible apply lm_sPL); exact rfl; exact rfl)
    | ((with_reducible apply lm_sAA); exact rfl; first | exact rfl | exact lm_roO (by omega) | exact lm_roM (by omega))
    | ((with_reducible apply lm_sI); exact lm_fpL (by omega))
    | ((with_reducible apply lm_sR); exact lm_fpB (by omega))
    | ((with_reducible apply lm_sP); exact lm_fpL (by omega); exact rfl)
    | ((with_reducible apply lm_sS); exact lm_ocO (by omega); exact rfl)
    | ((with_reducible apply lm_sA); exact rfl; omega)
    | ((with_reducible apply lm_sJ); exact rfl; omega)
    | ((with_reducible apply lm_sB); (first | exact rfl | exact lm_arB (by omega) | exact lm_arM (by omega)); omega)
    | ((with_reducible apply lm_wA); exact rfl; omega)
    | ((with_reducible apply lm_wJ); exact rfl; omega)
    | ((with_reducible apply lm_wB); (first | exact rfl | exact lm_arB (by omega) | exact lm_arM (by omega)); omega)
    | ((with_reducible apply lm_sAl); (first | exact rfl | exact lm_arB (by omega) | exact lm_arM (by omega)); omega)
    | ((with_reducible apply lm_iW); decide))
    refine lm_cI (lm_u60 (d := d + 4) h1 h12) ?_
    repeat (first
    | ((with_reducible apply lm_sI); exact rfl)
    | ((with_reducible apply lm_sR); exact rfl)
    | ((with_reducible apply lm_sS); exact rfl; exact rfl)
    | ((with_reducible apply lm_sL); exact rfl)
    | ((with_reducible apply lm_sP); exact rfl; exact rfl)
    | ((with_reducible apply lm_sPL); exact rfl; exact rfl)
    | ((with_reducible apply lm_sAA); exact rfl; first | exact rfl | exact lm_roO (by omega) | exact lm_roM (by omega))
    | ((with_reducible apply lm_sI); exact lm_fpL (by omega))
    | ((with_reducible apply lm_sR); exact lm_fpB (by omega))
    | ((with_reducible apply lm_sP); exact lm_fpL (by omega); exact rfl)
    | ((with_reducible apply lm_sS); exact lm_ocO (by omega); exact rfl)
    | ((with_reducible apply lm_sA); exact rfl; omega)
    | ((with_reducible apply lm_sJ); exact rfl; omega)
    | ((with_reducible apply lm_sB); (first | exact rfl | exact lm_arB (by omega) | exact lm_arM (by omega)); omega)
    | ((with_reducible apply lm_wA); exact rfl; omega)
    | ((with_reducible apply lm_wJ); exact rfl; omega)
    | ((with_reducible apply lm_wB); (first | exact rfl | exact lm_arB (by omega) | exact lm_arM (by omega)); omega)
    | ((with_reducible apply lm_sAl); (first | exact rfl | exact lm_arB (by omega) | exact lm_arM (by omega)); omega)
    | ((with_reducible apply lm_iW); decide))
    rw [lm_K0]
    refine lm_cV e1 ?_
    repeat (first
    | ((with_reducible apply lm_sI); exact rfl)
    | ((with_reducible apply lm_sR); exact rfl)
    | ((with_reducible apply lm_sS); exact rfl; exact rfl)
    | ((with_reducible apply lm_sL); exact rfl)
    | ((with_reducible apply lm_sP); exact rfl; exact rfl)
    | ((with_reducible apply lm_sPL); exact rfl; exact rfl)
    | ((with_reducible apply lm_sAA); exact rfl; first | exact rfl | exact lm_roO (by omega) | exact lm_roM (by omega))
    | ((with_reducible apply lm_sI); exact lm_fpL (by omega))
    | ((with_reducible apply lm_sR); exact lm_fpB (by omega))
    | ((with_reducible apply lm_sP); exact lm_fpL (by omega); exact rfl)
    | ((with_reducible apply lm_sS); exact lm_ocO (by omega); exact rfl)
    | ((with_reducible apply lm_sA); exact rfl; omega)
    | ((with_reducible apply lm_sJ); exact rfl; omega)
    | ((with_reducible apply lm_sB); (first | exact rfl | exact lm_arB (by omega) | exact lm_arM (by omega)); omega)
    | ((with_reducible apply lm_wA); exact rfl; omega)
    | ((with_reducible apply lm_wJ); exact rfl; omega)
    | ((with_reducible apply lm_wB); (first | exact rfl | exact lm_arB (by omega) | exact lm_arM (by omega)); omega)
    | ((with_reducible apply lm_sAl); (first | exact rfl | exact lm_arB (by omega) | exact lm_arM (by omega)); omega)
    | ((with_reducible apply lm_iW); decide))
    refine lm_cV e2 ?_
    exact K
  have main := lm_l65p (sc := sc) (d := d + 2) (x := x) (q := q) (a := a) (L := L) (m0 := m2) (n0 := n2) (Q := fun o => ∃ m' n', o = some (.ok none, lm_w (lm_fil m' q a (a + L) (fun i => lm_ou (lm_tb m n) b (lm_rate b) (lm_hf (lm_tb m n) b (lm_rate b) (lm_mo (lm_tb m n) b kb hc h0)).2.2.1 (i - a))) n' x) ∧ lm_fg m n m' n') h2 hr128 (lm_rate b) 0 m2 n2 _ (by omega) (show (0 : Nat) < lm_rate b by omega) S2 lm_fh.rf ?_ (fun o ho => by obtain ⟨m', n', e, _⟩ := ho; exact ⟨_, e⟩)
  · obtain ⟨m', n', e, f⟩ := main
    exact ⟨m', n', start _ e, f⟩
  · intro m3 n3 S3 f3
    rw [f2.tb, fA.tb] at S3
    obtain ⟨m4, n4, e4, S4, f4⟩ := lm_u62 (sc := sc) (d := d + 1) (x := x) (q := 229) (v := 64) (a := 0) (l := lm_dg b) hkr ⟨by decide, by decide⟩ rfl (by omega) (by omega) (lm_hps_f _ _ _ (show (0 : Nat) < lm_rate b by omega)) S3
    rw [f3.tb, f2.tb, fA.tb] at S4
    obtain ⟨m5, n5, e5, f5⟩ := lm_u63 (sc := sc) (d := d) (x := x) (q := q) (v := v) (a := a) (l := L) hkr hrp ⟨hq.1, hq.2.1, hq.2.2.1⟩ har hlv hv (fun _ => ⟨by omega, fun hr => by have := hdk.2 hr; omega⟩) (lm_hps_f _ _ _ (lm_hps_f _ _ _ (show (0 : Nat) < lm_rate b by omega))) S4
    rw [f4.tb, f3.tb, f2.tb, fA.tb] at e5
    have F := ((fA.tr f2.g).tr (f3.g.tr f4.g)).tr f5.g
    refine ⟨m5, n5, ?_, F⟩
    refine lm_e65_27 ?_
    unfold lm_q65_27
    refine lm_geT (by omega) (by omega) (by omega) ?_
    repeat (first
    | ((with_reducible apply lm_sI); exact rfl)
    | ((with_reducible apply lm_sR); exact rfl)
    | ((with_reducible apply lm_sS); exact rfl; exact rfl)
    | ((with_reducible apply lm_sL); exact rfl)
    | ((with_reducible apply lm_sP); exact rfl; exact rfl)
    | ((with_reducible apply lm_sPL); exact rfl; exact rfl)
    | ((with_reducible apply lm_sAA); exact rfl; first | exact rfl | exact lm_roO (by omega) | exact lm_roM (by omega))
    | ((with_reducible apply lm_sI); exact lm_fpL (by omega))
    | ((with_reducible apply lm_sR); exact lm_fpB (by omega))
    | ((with_reducible apply lm_sP); exact lm_fpL (by omega); exact rfl)
    | ((with_reducible apply lm_sS); exact lm_ocO (by omega); exact rfl)
    | ((with_reducible apply lm_sA); exact rfl; omega)
    | ((with_reducible apply lm_sJ); exact rfl; omega)
    | ((with_reducible apply lm_sB); (first | exact rfl | exact lm_arB (by omega) | exact lm_arM (by omega)); omega)
    | ((with_reducible apply lm_wA); exact rfl; omega)
    | ((with_reducible apply lm_wJ); exact rfl; omega)
    | ((with_reducible apply lm_wB); (first | exact rfl | exact lm_arB (by omega) | exact lm_arM (by omega)); omega)
    | ((with_reducible apply lm_sAl); (first | exact rfl | exact lm_arB (by omega) | exact lm_arM (by omega)); omega)
    | ((with_reducible apply lm_iW); decide))
    refine lm_cI (lm_u60 (d := d + 4) h1 h12) ?_
    repeat (first
    | ((with_reducible apply lm_sI); exact rfl)
    | ((with_reducible apply lm_sR); exact rfl)
    | ((with_reducible apply lm_sS); exact rfl; exact rfl)
    | ((with_reducible apply lm_sL); exact rfl)
    | ((with_reducible apply lm_sP); exact rfl; exact rfl)
    | ((with_reducible apply lm_sPL); exact rfl; exact rfl)
    | ((with_reducible apply lm_sAA); exact rfl; first | exact rfl | exact lm_roO (by omega) | exact lm_roM (by omega))
    | ((with_reducible apply lm_sI); exact lm_fpL (by omega))
    | ((with_reducible apply lm_sR); exact lm_fpB (by omega))
    | ((with_reducible apply lm_sP); exact lm_fpL (by omega); exact rfl)
    | ((with_reducible apply lm_sS); exact lm_ocO (by omega); exact rfl)
    | ((with_reducible apply lm_sA); exact rfl; omega)
    | ((with_reducible apply lm_sJ); exact rfl; omega)
    | ((with_reducible apply lm_sB); (first | exact rfl | exact lm_arB (by omega) | exact lm_arM (by omega)); omega)
    | ((with_reducible apply lm_wA); exact rfl; omega)
    | ((with_reducible apply lm_wJ); exact rfl; omega)
    | ((with_reducible apply lm_wB); (first | exact rfl | exact lm_arB (by omega) | exact lm_arM (by omega)); omega)
    | ((with_reducible apply lm_sAl); (first | exact rfl | exact lm_arB (by omega) | exact lm_arM (by omega)); omega)
    | ((with_reducible apply lm_iW); decide))
    rw [lm_K0]
    refine lm_cV e4 ?_
    repeat (first
    | ((with_reducible apply lm_sI); exact rfl)
    | ((with_reducible apply lm_sR); exact rfl)
    | ((with_reducible apply lm_sS); exact rfl; exact rfl)
    | ((with_reducible apply lm_sL); exact rfl)
    | ((with_reducible apply lm_sP); exact rfl; exact rfl)
    | ((with_reducible apply lm_sPL); exact rfl; exact rfl)
    | ((with_reducible apply lm_sAA); exact rfl; first | exact rfl | exact lm_roO (by omega) | exact lm_roM (by omega))
    | ((with_reducible apply lm_sI); exact lm_fpL (by omega))
    | ((with_reducible apply lm_sR); exact lm_fpB (by omega))
    | ((with_reducible apply lm_sP); exact lm_fpL (by omega); exact rfl)
    | ((with_reducible apply lm_sS); exact lm_ocO (by omega); exact rfl)
    | ((with_reducible apply lm_sA); exact rfl; omega)
    | ((with_reducible apply lm_sJ); exact rfl; omega)
    | ((with_reducible apply lm_sB); (first | exact rfl | exact lm_arB (by omega) | exact lm_arM (by omega)); omega)
    | ((with_reducible apply lm_wA); exact rfl; omega)
    | ((with_reducible apply lm_wJ); exact rfl; omega)
    | ((with_reducible apply lm_wB); (first | exact rfl | exact lm_arB (by omega) | exact lm_arM (by omega)); omega)
    | ((with_reducible apply lm_sAl); (first | exact rfl | exact lm_arB (by omega) | exact lm_arM (by omega)); omega)
    | ((with_reducible apply lm_iW); decide))
    refine lm_cV e5 ?_
    refine congrArg (fun M => some (Except.ok none, lm_w M n5 x)) (lm_fl_ext (fun i hi1 hi2 => ?_))
    have e228 : m2 228 = m 228 := by rw [f2.1 228 (by decide) (by decide), lm_fl_row (by decide), f1.1 228 (by decide) (by decide)]
    have e229 : ∀ i, i < lm_dg b → m3 229 i = lm_ou (lm_tb m n) b (lm_rate b) (lm_hf (lm_tb m n) b (lm_rate b) hc).2.2.1 i := fun i hi => by
      rw [f3.1 229 (by decide) (by decide), f2.1 229 (by decide) (by decide), lm_fl_in (by omega), ← eg]
      exact lm_he_out h12 hf he (fun _ => ⟨by omega, fun hr => by have := hdk.2 hr; omega⟩)
    refine lm_he_out h12 (lm_hps_f _ _ _ (lm_hps_f _ _ _ (show (0 : Nat) < lm_rate b by omega))) ?_ (fun _ => ⟨by omega, fun hr => by have := hdk.2 hr; omega⟩)
    unfold lm_mo
    rw [lm_hps_b8 (g := fun i => lm_b8 (m3 229 i)) (g' := lm_ou (lm_tb m n) b (lm_rate b) (lm_hf (lm_tb m n) b (lm_rate b) hc).2.2.1) (show ¬ 6 < b by omega) (lm_dg b) 0 _ (fun i _ hi => by rw [lm_b8b, e229 i (by omega)])]
    rw [lm_hps_b8 (g := fun i => lm_b8 (m2 228 i) ^^^ Int32.ofInt 92) (g' := fun i => kb i ^^^ Int32.ofInt 92) (show ¬ 6 < b by omega) (lm_rate b) 0 _ (fun i _ hi => by rw [e228, hk i (by omega), lm_b8x])]
    refine lm_he_hps hkr _ 0 _ _ (lm_hps_f _ _ _ (show (0 : Nat) < lm_rate b by omega)) (lm_he_hps hkr _ 0 _ _ (show (0 : Nat) < lm_rate b by omega) ?_)
    rw [e0, fA.2.2 215 (by decide) (by decide) (by decide) (by decide) (by decide), fA.2.2 217 (by decide) (by decide) (by decide) (by decide) (by decide), fA.2.2 218 (by decide) (by decide) (by decide) (by decide) (by decide)]
    exact lm_he_0
end LMRN
