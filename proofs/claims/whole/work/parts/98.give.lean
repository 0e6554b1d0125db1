/-! ===== the reference's hashes: put of bytes, squeeze, give ===== -/
theorem lm_b8a (v : Int32) : lm_b8 (v &&& Int32.ofInt 255) = lm_b8 v := by
  refine lm_b8_of ?_
  show BitVec.setWidth 8 (v.toBitVec &&& 255#32) = _
  refine BitVec.eq_of_getLsbD_eq fun i hi => ?_
  rw [BitVec.getLsbD_setWidth, BitVec.getLsbD_setWidth, BitVec.getLsbD_and, lm_bt255 i (by omega), decide_eq_true hi, Bool.and_true]
theorem lm_fl_uc {α : Type} {m : Nat → Nat → α} {q a b p c : Nat} {g : Nat → α} {v : α} (h : p ≠ q) : lm_u (lm_fil m q a b g) p c v = lm_fil (lm_u m p c v) q a b g := by
  funext p' i
  rw [lm_rf]
  show (if p' = p ∧ i = c then v else lm_fil m q a b g p' i) = _
  rw [lm_rf]
  by_cases e : p' = q ∧ a ≤ i ∧ i < b
  · rw [if_pos e, if_pos e, if_neg (by omega)]
  · rw [if_neg e, if_neg e]
    rfl
section LMGI
variable {sc : lm_H} {d k r : Nat} {m : lm_MI} {n : lm_ML} {x : lm_H × Nat × Nat} {h : lm_HV}
theorem lm_l62 {q v a l : Nat} (hr : lm_kr k r) (hq : q ≠ 203 ∧ q ≠ 227) (har : lm_ar q = some (1, v)) (hal : a + l ≤ v) (hv : v ≤ 70000) : ∀ j t (m1 : lm_MI) (n1 : lm_ML) (h1 : lm_HV), t + j = l → h1.1 < r → lm_HS m1 n1 k r h1 → lm_fh m n m1 n1 → lm_RH x m n k r (lm_hps (lm_tb m n) k r (fun i => lm_b8 (m q i)) j (a + t) h1) none (lm_rn sc (d + 3) lm_m62.2.2.2.2.1 (lm_reg lm_m62.2.2.2.2.2) (3, [(0, .ref 203), (1, .ref q), (2, .int (Int32.ofNat a)), (3, .int (Int32.ofNat l)), (4, .int (Int32.ofNat t))], []) (lm_w m1 n1 x)) := by
  intro j
  induction j with
  | zero =>
    intro t m1 n1 h1 ht hf hS hfr
    refine ⟨m1, n1, ?_, hS, hfr⟩
    refine lm_e62_3 ?_
    unfold lm_q62_3
    exact lm_geT (by omega) (by omega) (by omega) rfl
  | succ j ih =>
    intro t m1 n1 h1 ht hf hS hfr
    obtain ⟨m2, n2, c2, s2, f2⟩ := lm_u69 (sc := sc) (d := d) (x := x) (v := lm_b8 (m q (a + t))) hr hf hS
    rw [hfr.tb] at s2
    obtain ⟨m3, n3, c3, s3, f3⟩ := ih (t + 1) m2 n2 _ (by omega) (lm_hp_lt hf) s2 (hfr.tr f2)
    refine ⟨m3, n3, ?_, s3, f3⟩
    refine lm_e62_3 ?_
    unfold lm_q62_3
    refine lm_geF (by omega) (by omega) (by omega) ?_
    rw [lm_oo]
    refine lm_sB har (by omega) ?_
    rw [hfr.1 q hq.1 hq.2]
    repeat (first
    | ((with_reducible apply lm_sI); exact rfl)
    | ((with_reducible apply lm_sR); exact rfl)
    | ((with_reducible apply lm_sS); exact rfl; exact rfl)
    | ((with_reducible apply lm_sL); exact rfl)
    | ((with_reducible apply lm_sP); exact rfl; exact rfl)
    | ((with_reducible apply lm_sPL); exact rfl; exact rfl)
    | ((with_reducible apply lm_sAA); exact rfl; first | exact rfl | exact lm_roO (by omega) | exact lm_roM (by omega))
    | ((with_reducible apply lm_sI); exact lm_fpL (by omega))
    | ((with_reducible apply lm_sR); exact lm_fpB (by omega))
    | ((with_reducible apply lm_sP); exact lm_fpL (by omega); exact rfl)
    | ((with_reducible apply lm_sS); exact lm_ocO (by omega); exact rfl)
    | ((with_reducible apply lm_sA); exact rfl; omega)
    | ((with_reducible apply lm_sJ); exact rfl; omega)
    | ((with_reducible apply lm_sB); (first | exact rfl | exact lm_arB (by omega) | exact lm_arM (by omega)); omega)
    | ((with_reducible apply lm_wA); exact rfl; omega)
    | ((with_reducible apply lm_wJ); exact rfl; omega)
    | ((with_reducible apply lm_wB); (first | exact rfl | exact lm_arB (by omega) | exact lm_arM (by omega)); omega)
    | ((with_reducible apply lm_sAl); (first | exact rfl | exact lm_arB (by omega) | exact lm_arM (by omega)); omega)
    | ((with_reducible apply lm_iW); decide))
    refine lm_cV c2 ?_
    rw [show Int32.ofNat t + Int32.ofInt 1 = Int32.ofNat (t + 1) from lm_oa t 1]
    exact c3
theorem lm_u62 {q v a l : Nat} (hr : lm_kr k r) (hq : q ≠ 203 ∧ q ≠ 227) (har : lm_ar q = some (1, v)) (hal : a + l ≤ v) (hv : v ≤ 70000) (hf : h.1 < r) (hS : lm_HS m n k r h) : lm_RH x m n k r (lm_hps (lm_tb m n) k r (fun i => lm_b8 (m q i)) l a h) none (lm_cal sc (d + 4) 62 [.ref 203, .ref q, .int (Int32.ofNat a), .int (Int32.ofNat l)] (lm_w m n x)) := by
  obtain ⟨m', n', e, s, f⟩ := lm_l62 (sc := sc) (d := d) (x := x) (m := m) (n := n) hr hq har hal hv l 0 m n h (by omega) hf hS lm_fh.rf
  refine ⟨m', n', ?_, s, f⟩
  refine lm_cal_of (Y := lm_m62) rfl rfl (lm_e62_0 ?_)
  unfold lm_q62_0
  exact e
/-- squeeze within a block -/
theorem lm_u149a {i : Nat} {S : Nat → Int64} (hr : r ≤ 200) (h2 : m 203 19 = Int32.ofNat r) (h3 : m 203 20 = Int32.ofNat i) (h5 : n 223 = S) (hi : i < r) : lm_cal sc (d + 3) 149 [.ref 203] (lm_w m n x) = some (.ok (some (.int ((Int64.toInt32 (lm_uL (S (i / 8)) (Int32.ofNat (8 * (i % 8))))) &&& (Int32.ofInt 255)))), lm_w (lm_u m 203 20 (Int32.ofNat (i + 1))) n x) := by
  refine lm_cal_of (Y := lm_m149) rfl rfl (lm_e149_0 ?_)
  unfold lm_q149_0
  repeat (first
    | ((with_reducible apply lm_sI); exact rfl)
    | ((with_reducible apply lm_sR); exact rfl)
    | ((with_reducible apply lm_sS); exact rfl; exact rfl)
    | ((with_reducible apply lm_sL); exact rfl)
    | ((with_reducible apply lm_sP); exact rfl; exact rfl)
    | ((with_reducible apply lm_sPL); exact rfl; exact rfl)
    | ((with_reducible apply lm_sAA); exact rfl; first | exact rfl | exact lm_roO (by omega) | exact lm_roM (by omega))
    | ((with_reducible apply lm_sI); exact lm_fpL (by omega))
    | ((with_reducible apply lm_sR); exact lm_fpB (by omega))
    | ((with_reducible apply lm_sP); exact lm_fpL (by omega); exact rfl)
    | ((with_reducible apply lm_sS); exact lm_ocO (by omega); exact rfl)
    | ((with_reducible apply lm_sA); exact rfl; omega)
    | ((with_reducible apply lm_sJ); exact rfl; omega)
    | ((with_reducible apply lm_sB); (first | exact rfl | exact lm_arB (by omega) | exact lm_arM (by omega)); omega)
    | ((with_reducible apply lm_wA); exact rfl; omega)
    | ((with_reducible apply lm_wJ); exact rfl; omega)
    | ((with_reducible apply lm_wB); (first | exact rfl | exact lm_arB (by omega) | exact lm_arM (by omega)); omega)
    | ((with_reducible apply lm_sAl); (first | exact rfl | exact lm_arB (by omega) | exact lm_arM (by omega)); omega)
    | ((with_reducible apply lm_iW); decide))
  simp only [Nat.reduceDiv, Nat.reduceMod, h2, h3]
  refine lm_neT (by omega) (by omega) (by omega) ?_
  refine lm_e149_20 ?_
  unfold lm_q149_20
  repeat (first
    | ((with_reducible apply lm_sI); exact rfl)
    | ((with_reducible apply lm_sR); exact rfl)
    | ((with_reducible apply lm_sS); exact rfl; exact rfl)
    | ((with_reducible apply lm_sL); exact rfl)
    | ((with_reducible apply lm_sP); exact rfl; exact rfl)
    | ((with_reducible apply lm_sPL); exact rfl; exact rfl)
    | ((with_reducible apply lm_sAA); exact rfl; first | exact rfl | exact lm_roO (by omega) | exact lm_roM (by omega))
    | ((with_reducible apply lm_sI); exact lm_fpL (by omega))
    | ((with_reducible apply lm_sR); exact lm_fpB (by omega))
    | ((with_reducible apply lm_sP); exact lm_fpL (by omega); exact rfl)
    | ((with_reducible apply lm_sS); exact lm_ocO (by omega); exact rfl)
    | ((with_reducible apply lm_sA); exact rfl; omega)
    | ((with_reducible apply lm_sJ); exact rfl; omega)
    | ((with_reducible apply lm_sB); (first | exact rfl | exact lm_arB (by omega) | exact lm_arM (by omega)); omega)
    | ((with_reducible apply lm_wA); exact rfl; omega)
    | ((with_reducible apply lm_wJ); exact rfl; omega)
    | ((with_reducible apply lm_wB); (first | exact rfl | exact lm_arB (by omega) | exact lm_arM (by omega)); omega)
    | ((with_reducible apply lm_sAl); (first | exact rfl | exact lm_arB (by omega) | exact lm_arM (by omega)); omega)
    | ((with_reducible apply lm_iW); decide))
  simp only [Nat.reduceDiv, Nat.reduceMod, h3, lm_K8]
  rw [lm_od (by omega) (by omega)]
  repeat (first
    | ((with_reducible apply lm_sI); exact rfl)
    | ((with_reducible apply lm_sR); exact rfl)
    | ((with_reducible apply lm_sS); exact rfl; exact rfl)
    | ((with_reducible apply lm_sL); exact rfl)
    | ((with_reducible apply lm_sP); exact rfl; exact rfl)
    | ((with_reducible apply lm_sPL); exact rfl; exact rfl)
    | ((with_reducible apply lm_sAA); exact rfl; first | exact rfl | exact lm_roO (by omega) | exact lm_roM (by omega))
    | ((with_reducible apply lm_sI); exact lm_fpL (by omega))
    | ((with_reducible apply lm_sR); exact lm_fpB (by omega))
    | ((with_reducible apply lm_sP); exact lm_fpL (by omega); exact rfl)
    | ((with_reducible apply lm_sS); exact lm_ocO (by omega); exact rfl)
    | ((with_reducible apply lm_sA); exact rfl; omega)
    | ((with_reducible apply lm_sJ); exact rfl; omega)
    | ((with_reducible apply lm_sB); (first | exact rfl | exact lm_arB (by omega) | exact lm_arM (by omega)); omega)
    | ((with_reducible apply lm_wA); exact rfl; omega)
    | ((with_reducible apply lm_wJ); exact rfl; omega)
    | ((with_reducible apply lm_wB); (first | exact rfl | exact lm_arB (by omega) | exact lm_arM (by omega)); omega)
    | ((with_reducible apply lm_sAl); (first | exact rfl | exact lm_arB (by omega) | exact lm_arM (by omega)); omega)
    | ((with_reducible apply lm_iW); decide))
  simp only [Nat.reduceDiv, Nat.reduceMod, h3, h5]
  rw [lm_orm (by omega) (by omega), lm_om, show Int32.ofNat i + Int32.ofInt 1 = Int32.ofNat (i + 1) from lm_oa i 1]
  repeat (first
    | ((with_reducible apply lm_sI); exact rfl)
    | ((with_reducible apply lm_sR); exact rfl)
    | ((with_reducible apply lm_sS); exact rfl; exact rfl)
    | ((with_reducible apply lm_sL); exact rfl)
    | ((with_reducible apply lm_sP); exact rfl; exact rfl)
    | ((with_reducible apply lm_sPL); exact rfl; exact rfl)
    | ((with_reducible apply lm_sAA); exact rfl; first | exact rfl | exact lm_roO (by omega) | exact lm_roM (by omega))
    | ((with_reducible apply lm_sI); exact lm_fpL (by omega))
    | ((with_reducible apply lm_sR); exact lm_fpB (by omega))
    | ((with_reducible apply lm_sP); exact lm_fpL (by omega); exact rfl)
    | ((with_reducible apply lm_sS); exact lm_ocO (by omega); exact rfl)
    | ((with_reducible apply lm_sA); exact rfl; omega)
    | ((with_reducible apply lm_sJ); exact rfl; omega)
    | ((with_reducible apply lm_sB); (first | exact rfl | exact lm_arB (by omega) | exact lm_arM (by omega)); omega)
    | ((with_reducible apply lm_wA); exact rfl; omega)
    | ((with_reducible apply lm_wJ); exact rfl; omega)
    | ((with_reducible apply lm_wB); (first | exact rfl | exact lm_arB (by omega) | exact lm_arM (by omega)); omega)
    | ((with_reducible apply lm_sAl); (first | exact rfl | exact lm_arB (by omega) | exact lm_arM (by omega)); omega)
    | ((with_reducible apply lm_iW); decide))
  exact rfl
/-- squeeze behind a block -/
theorem lm_u149b {S : Nat → Int64} (hr1 : 0 < r) (hr : r ≤ 200) (h2 : m 203 19 = Int32.ofNat r) (h3 : m 203 20 = Int32.ofNat r) (h5 : n 223 = S) : ∃ n', lm_cal sc (d + 3) 149 [.ref 203] (lm_w m n x) = some (.ok (some (.int ((Int64.toInt32 (lm_uL (lm_kF (m 221) (n 222) 24 0 S 0) (Int32.ofNat 0))) &&& (Int32.ofInt 255)))), lm_w (lm_u m 203 20 (Int32.ofNat 1)) n' x) ∧ n' 223 = lm_kF (m 221) (n 222) 24 0 S ∧ lm_fk n n' := by
  obtain ⟨n3, e, g1, g2⟩ := lm_u154 (sc := sc) (d := d) (m := m) (x := x) (n := n)
  rw [h5] at g1
  refine ⟨n3, ?_, g1, g2⟩
  refine lm_cal_of (Y := lm_m149) rfl rfl (lm_e149_0 ?_)
  unfold lm_q149_0
  repeat (first
    | ((with_reducible apply lm_sI); exact rfl)
    | ((with_reducible apply lm_sR); exact rfl)
    | ((with_reducible apply lm_sS); exact rfl; exact rfl)
    | ((with_reducible apply lm_sL); exact rfl)
    | ((with_reducible apply lm_sP); exact rfl; exact rfl)
    | ((with_reducible apply lm_sPL); exact rfl; exact rfl)
    | ((with_reducible apply lm_sAA); exact rfl; first | exact rfl | exact lm_roO (by omega) | exact lm_roM (by omega))
    | ((with_reducible apply lm_sI); exact lm_fpL (by omega))
    | ((with_reducible apply lm_sR); exact lm_fpB (by omega))
    | ((with_reducible apply lm_sP); exact lm_fpL (by omega); exact rfl)
    | ((with_reducible apply lm_sS); exact lm_ocO (by omega); exact rfl)
    | ((with_reducible apply lm_sA); exact rfl; omega)
    | ((with_reducible apply lm_sJ); exact rfl; omega)
    | ((with_reducible apply lm_sB); (first | exact rfl | exact lm_arB (by omega) | exact lm_arM (by omega)); omega)
    | ((with_reducible apply lm_wA); exact rfl; omega)
    | ((with_reducible apply lm_wJ); exact rfl; omega)
    | ((with_reducible apply lm_wB); (first | exact rfl | exact lm_arB (by omega) | exact lm_arM (by omega)); omega)
    | ((with_reducible apply lm_sAl); (first | exact rfl | exact lm_arB (by omega) | exact lm_arM (by omega)); omega)
    | ((with_reducible apply lm_iW); decide))
  simp only [Nat.reduceDiv, Nat.reduceMod, h2, h3]
  refine lm_neF (by omega) (by omega) (fun g => g rfl) ?_
  repeat (first
    | ((with_reducible apply lm_sI); exact rfl)
    | ((with_reducible apply lm_sR); exact rfl)
    | ((with_reducible apply lm_sS); exact rfl; exact rfl)
    | ((with_reducible apply lm_sL); exact rfl)
    | ((with_reducible apply lm_sP); exact rfl; exact rfl)
    | ((with_reducible apply lm_sPL); exact rfl; exact rfl)
    | ((with_reducible apply lm_sAA); exact rfl; first | exact rfl | exact lm_roO (by omega) | exact lm_roM (by omega))
    | ((with_reducible apply lm_sI); exact lm_fpL (by omega))
    | ((with_reducible apply lm_sR); exact lm_fpB (by omega))
    | ((with_reducible apply lm_sP); exact lm_fpL (by omega); exact rfl)
    | ((with_reducible apply lm_sS); exact lm_ocO (by omega); exact rfl)
    | ((with_reducible apply lm_sA); exact rfl; omega)
    | ((with_reducible apply lm_sJ); exact rfl; omega)
    | ((with_reducible apply lm_sB); (first | exact rfl | exact lm_arB (by omega) | exact lm_arM (by omega)); omega)
    | ((with_reducible apply lm_wA); exact rfl; omega)
    | ((with_reducible apply lm_wJ); exact rfl; omega)
    | ((with_reducible apply lm_wB); (first | exact rfl | exact lm_arB (by omega) | exact lm_arM (by omega)); omega)
    | ((with_reducible apply lm_sAl); (first | exact rfl | exact lm_arB (by omega) | exact lm_arM (by omega)); omega)
    | ((with_reducible apply lm_iW); decide))
  refine lm_cV e ?_
  repeat (first
    | ((with_reducible apply lm_sI); exact rfl)
    | ((with_reducible apply lm_sR); exact rfl)
    | ((with_reducible apply lm_sS); exact rfl; exact rfl)
    | ((with_reducible apply lm_sL); exact rfl)
    | ((with_reducible apply lm_sP); exact rfl; exact rfl)
    | ((with_reducible apply lm_sPL); exact rfl; exact rfl)
    | ((with_reducible apply lm_sAA); exact rfl; first | exact rfl | exact lm_roO (by omega) | exact lm_roM (by omega))
    | ((with_reducible apply lm_sI); exact lm_fpL (by omega))
    | ((with_reducible apply lm_sR); exact lm_fpB (by omega))
    | ((with_reducible apply lm_sP); exact lm_fpL (by omega); exact rfl)
    | ((with_reducible apply lm_sS); exact lm_ocO (by omega); exact rfl)
    | ((with_reducible apply lm_sA); exact rfl; omega)
    | ((with_reducible apply lm_sJ); exact rfl; omega)
    | ((with_reducible apply lm_sB); (first | exact rfl | exact lm_arB (by omega) | exact lm_arM (by omega)); omega)
    | ((with_reducible apply lm_wA); exact rfl; omega)
    | ((with_reducible apply lm_wJ); exact rfl; omega)
    | ((with_reducible apply lm_wB); (first | exact rfl | exact lm_arB (by omega) | exact lm_arM (by omega)); omega)
    | ((with_reducible apply lm_sAl); (first | exact rfl | exact lm_arB (by omega) | exact lm_arM (by omega)); omega)
    | ((with_reducible apply lm_iW); decide))
  refine lm_e149_20 ?_
  unfold lm_q149_20
  repeat (first
    | ((with_reducible apply lm_sI); exact rfl)
    | ((with_reducible apply lm_sR); exact rfl)
    | ((with_reducible apply lm_sS); exact rfl; exact rfl)
    | ((with_reducible apply lm_sL); exact rfl)
    | ((with_reducible apply lm_sP); exact rfl; exact rfl)
    | ((with_reducible apply lm_sPL); exact rfl; exact rfl)
    | ((with_reducible apply lm_sAA); exact rfl; first | exact rfl | exact lm_roO (by omega) | exact lm_roM (by omega))
    | ((with_reducible apply lm_sI); exact lm_fpL (by omega))
    | ((with_reducible apply lm_sR); exact lm_fpB (by omega))
    | ((with_reducible apply lm_sP); exact lm_fpL (by omega); exact rfl)
    | ((with_reducible apply lm_sS); exact lm_ocO (by omega); exact rfl)
    | ((with_reducible apply lm_sA); exact rfl; omega)
    | ((with_reducible apply lm_sJ); exact rfl; omega)
    | ((with_reducible apply lm_sB); (first | exact rfl | exact lm_arB (by omega) | exact lm_arM (by omega)); omega)
    | ((with_reducible apply lm_wA); exact rfl; omega)
    | ((with_reducible apply lm_wJ); exact rfl; omega)
    | ((with_reducible apply lm_wB); (first | exact rfl | exact lm_arB (by omega) | exact lm_arM (by omega)); omega)
    | ((with_reducible apply lm_sAl); (first | exact rfl | exact lm_arB (by omega) | exact lm_arM (by omega)); omega)
    | ((with_reducible apply lm_iW); decide))
  simp only [Nat.reduceDiv, Nat.reduceMod, lm_u_eq, lm_K8, lm_K0]
  rw [lm_od (by omega) (by omega)]
  repeat (first
    | ((with_reducible apply lm_sI); exact rfl)
    | ((with_reducible apply lm_sR); exact rfl)
    | ((with_reducible apply lm_sS); exact rfl; exact rfl)
    | ((with_reducible apply lm_sL); exact rfl)
    | ((with_reducible apply lm_sP); exact rfl; exact rfl)
    | ((with_reducible apply lm_sPL); exact rfl; exact rfl)
    | ((with_reducible apply lm_sAA); exact rfl; first | exact rfl | exact lm_roO (by omega) | exact lm_roM (by omega))
    | ((with_reducible apply lm_sI); exact lm_fpL (by omega))
    | ((with_reducible apply lm_sR); exact lm_fpB (by omega))
    | ((with_reducible apply lm_sP); exact lm_fpL (by omega); exact rfl)
    | ((with_reducible apply lm_sS); exact lm_ocO (by omega); exact rfl)
    | ((with_reducible apply lm_sA); exact rfl; omega)
    | ((with_reducible apply lm_sJ); exact rfl; omega)
    | ((with_reducible apply lm_sB); (first | exact rfl | exact lm_arB (by omega) | exact lm_arM (by omega)); omega)
    | ((with_reducible apply lm_wA); exact rfl; omega)
    | ((with_reducible apply lm_wJ); exact rfl; omega)
    | ((with_reducible apply lm_wB); (first | exact rfl | exact lm_arB (by omega) | exact lm_arM (by omega)); omega)
    | ((with_reducible apply lm_sAl); (first | exact rfl | exact lm_arB (by omega) | exact lm_arM (by omega)); omega)
    | ((with_reducible apply lm_iW); decide))
  simp only [Nat.reduceDiv, Nat.reduceMod, lm_u_eq, g1]
  rw [lm_orm (by omega) (by omega), lm_om, show Int32.ofNat 0 + Int32.ofInt 1 = Int32.ofNat 1 from lm_oa 0 1]
  repeat (first
    | ((with_reducible apply lm_sI); exact rfl)
    | ((with_reducible apply lm_sR); exact rfl)
    | ((with_reducible apply lm_sS); exact rfl; exact rfl)
    | ((with_reducible apply lm_sL); exact rfl)
    | ((with_reducible apply lm_sP); exact rfl; exact rfl)
    | ((with_reducible apply lm_sPL); exact rfl; exact rfl)
    | ((with_reducible apply lm_sAA); exact rfl; first | exact rfl | exact lm_roO (by omega) | exact lm_roM (by omega))
    | ((with_reducible apply lm_sI); exact lm_fpL (by omega))
    | ((with_reducible apply lm_sR); exact lm_fpB (by omega))
    | ((with_reducible apply lm_sP); exact lm_fpL (by omega); exact rfl)
    | ((with_reducible apply lm_sS); exact lm_ocO (by omega); exact rfl)
    | ((with_reducible apply lm_sA); exact rfl; omega)
    | ((with_reducible apply lm_sJ); exact rfl; omega)
    | ((with_reducible apply lm_sB); (first | exact rfl | exact lm_arB (by omega) | exact lm_arM (by omega)); omega)
    | ((with_reducible apply lm_wA); exact rfl; omega)
    | ((with_reducible apply lm_wJ); exact rfl; omega)
    | ((with_reducible apply lm_wB); (first | exact rfl | exact lm_arB (by omega) | exact lm_arM (by omega)); omega)
    | ((with_reducible apply lm_sAl); (first | exact rfl | exact lm_arB (by omega) | exact lm_arM (by omega)); omega)
    | ((with_reducible apply lm_iW); decide))
  rw [lm_uu]
  exact rfl
/-- what comes out, byte by byte -/
def lm_ou (T : lm_TB) (k r : Nat) (S : Nat → Int64) (i : Nat) : Int32 := if 6 < k then lm_ok T.1 T.2.1 r S i else if r = 64 then lm_o2 S i else lm_o5 S i
theorem lm_fh.u20 {m1 : lm_MI} {n1 : lm_ML} {v : Int32} (hfr : lm_fh m n m1 n1) : lm_fh m n (lm_u m1 203 20 v) n1 := hfr.tr ⟨fun q a b => lm_u_row a, fun j a b c => lm_u_ne (fun g => c g.2), fun q a b c d e => rfl⟩
theorem lm_l63s {q v a l : Nat} {S : Nat → Int64} (hk : 6 < k) (hk2 : k ≤ 12) (hr1 : 64 ≤ r) (hr : r ≤ 200) (hq : q ≠ 203 ∧ q ≠ 227 ∧ q ≠ 221) (har : lm_ar q = some (1, v)) (hal : a + l ≤ v) (hv : v ≤ 70000) : ∀ u t j i (m1 : lm_MI) (n1 : lm_ML), t + u = l → t = j * r + i → i ≤ r → m1 203 18 = Int32.ofNat k → m1 203 19 = Int32.ofNat r → m1 203 20 = Int32.ofNat i → n1 223 = lm_kN (lm_tb m n).1 (lm_tb m n).2.1 j S → lm_fh m n m1 n1 → ∃ m' n', lm_rn sc (d + 3) lm_m63.2.2.2.2.1 (lm_reg lm_m63.2.2.2.2.2) (7, [(0, .ref 203), (1, .ref q), (2, .int (Int32.ofNat a)), (3, .int (Int32.ofNat l)), (4, .int (Int32.ofNat t))], []) (lm_w (lm_fil m1 q a (a + t) (fun i => lm_ou (lm_tb m n) k r S (i - a))) n1 x) = some (.ok none, lm_w (lm_fil m' q a (a + l) (fun i => lm_ou (lm_tb m n) k r S (i - a))) n' x) ∧ lm_fh m n m' n' := by
  intro u
  induction u with
  | zero =>
    intro t j i m1 n1 ht hj hi h1 h2 h3 h5 hfr
    have ht : t = l := ht
    subst ht
    refine ⟨m1, n1, ?_, hfr⟩
    refine lm_e63_7 ?_
    unfold lm_q63_7
    exact lm_geT (by omega) (by omega) (by omega) rfl
  | succ u ih =>
    intro t j i m1 n1 ht hj hi h1 h2 h3 h5 hfr
    have q203 : 203 ≠ q := fun g => hq.1 g.symm
    have go : ∀ (j' i' : Nat) (n2 : lm_ML), t = j' * r + i' → i' < r → n2 223 = lm_kN (lm_tb m n).1 (lm_tb m n).2.1 j' S → lm_fh m n m1 n2 → lm_cal sc (d + 3) 149 [.ref 203] (lm_w (lm_fil m1 q a (a + t) (fun i => lm_ou (lm_tb m n) k r S (i - a))) n1 x) = some (.ok (some (.int ((Int64.toInt32 (lm_uL (n2 223 (i' / 8)) (Int32.ofNat (8 * (i' % 8))))) &&& (Int32.ofInt 255)))), lm_w (lm_u (lm_fil m1 q a (a + t) (fun i => lm_ou (lm_tb m n) k r S (i - a))) 203 20 (Int32.ofNat (i' + 1))) n2 x) → ∃ m' n', lm_rn sc (d + 3) lm_m63.2.2.2.2.1 (lm_reg lm_m63.2.2.2.2.2) (7, [(0, .ref 203), (1, .ref q), (2, .int (Int32.ofNat a)), (3, .int (Int32.ofNat l)), (4, .int (Int32.ofNat t))], []) (lm_w (lm_fil m1 q a (a + t) (fun i => lm_ou (lm_tb m n) k r S (i - a))) n1 x) = some (.ok none, lm_w (lm_fil m' q a (a + l) (fun i => lm_ou (lm_tb m n) k r S (i - a))) n' x) ∧ lm_fh m n m' n' := by
      intro j' i' n2 et hi' g5 gf gc
      obtain ⟨m', n', e, f⟩ := ih (t + 1) j' (i' + 1) (lm_u m1 203 20 (Int32.ofNat (i' + 1))) n2 (by omega) (by omega) (by omega) (by rw [lm_u_ne (by decide)]; exact h1) (by rw [lm_u_ne (by decide)]; exact h2) lm_u_eq g5 gf.u20
      refine ⟨m', n', ?_, f⟩
      refine lm_e63_7 ?_
      unfold lm_q63_7
      refine lm_geF (by omega) (by omega) (by omega) ?_
      repeat (first
    | ((with_reducible apply lm_sI); exact rfl)
    | ((with_reducible apply lm_sR); exact rfl)
    | ((with_reducible apply lm_sS); exact rfl; exact rfl)
    | ((with_reducible apply lm_sL); exact rfl)
    | ((with_reducible apply lm_sP); exact rfl; exact rfl)
    | ((with_reducible apply lm_sPL); exact rfl; exact rfl)
    | ((with_reducible apply lm_sAA); exact rfl; first | exact rfl | exact lm_roO (by omega) | exact lm_roM (by omega))
    | ((with_reducible apply lm_sI); exact lm_fpL (by omega))
    | ((with_reducible apply lm_sR); exact lm_fpB (by omega))
    | ((with_reducible apply lm_sP); exact lm_fpL (by omega); exact rfl)
    | ((with_reducible apply lm_sS); exact lm_ocO (by omega); exact rfl)
    | ((with_reducible apply lm_sA); exact rfl; omega)
    | ((with_reducible apply lm_sJ); exact rfl; omega)
    | ((with_reducible apply lm_sB); (first | exact rfl | exact lm_arB (by omega) | exact lm_arM (by omega)); omega)
    | ((with_reducible apply lm_wA); exact rfl; omega)
    | ((with_reducible apply lm_wJ); exact rfl; omega)
    | ((with_reducible apply lm_wB); (first | exact rfl | exact lm_arB (by omega) | exact lm_arM (by omega)); omega)
    | ((with_reducible apply lm_sAl); (first | exact rfl | exact lm_arB (by omega) | exact lm_arM (by omega)); omega)
    | ((with_reducible apply lm_iW); decide))
      refine lm_cI (lm_u148 (d := d + 2) (k := k) (by rw [lm_fl_row q203]; exact h1) hk2) ?_
      rw [decide_eq_true hk]
      refine lm_iF (show ¬ (1 : Int32) = 0 by decide) ?_
      repeat (first
    | ((with_reducible apply lm_sI); exact rfl)
    | ((with_reducible apply lm_sR); exact rfl)
    | ((with_reducible apply lm_sS); exact rfl; exact rfl)
    | ((with_reducible apply lm_sL); exact rfl)
    | ((with_reducible apply lm_sP); exact rfl; exact rfl)
    | ((with_reducible apply lm_sPL); exact rfl; exact rfl)
    | ((with_reducible apply lm_sAA); exact rfl; first | exact rfl | exact lm_roO (by omega) | exact lm_roM (by omega))
    | ((with_reducible apply lm_sI); exact lm_fpL (by omega))
    | ((with_reducible apply lm_sR); exact lm_fpB (by omega))
    | ((with_reducible apply lm_sP); exact lm_fpL (by omega); exact rfl)
    | ((with_reducible apply lm_sS); exact lm_ocO (by omega); exact rfl)
    | ((with_reducible apply lm_sA); exact rfl; omega)
    | ((with_reducible apply lm_sJ); exact rfl; omega)
    | ((with_reducible apply lm_sB); (first | exact rfl | exact lm_arB (by omega) | exact lm_arM (by omega)); omega)
    | ((with_reducible apply lm_wA); exact rfl; omega)
    | ((with_reducible apply lm_wJ); exact rfl; omega)
    | ((with_reducible apply lm_wB); (first | exact rfl | exact lm_arB (by omega) | exact lm_arM (by omega)); omega)
    | ((with_reducible apply lm_sAl); (first | exact rfl | exact lm_arB (by omega) | exact lm_arM (by omega)); omega)
    | ((with_reducible apply lm_iW); decide))
      refine lm_cI gc ?_
      rw [lm_oo, lm_fl_uc q203]
      refine lm_wB har (by omega) ?_
      refine lm_e63_96 ?_
      unfold lm_q63_96
      rw [show Int32.ofNat t + Int32.ofInt 1 = Int32.ofNat (t + 1) from lm_oa t 1]
      rw [← Nat.add_assoc a t 1, ← lm_fl_step (g := fun i => lm_ou (lm_tb m n) k r S (i - a)) (by omega)] at e
      rw [show lm_ou (lm_tb m n) k r S (a + t - a) = lm_b8 ((Int64.toInt32 (lm_uL (n2 223 (i' / 8)) (Int32.ofNat (8 * (i' % 8))))) &&& (Int32.ofInt 255)) by
        rw [Nat.add_sub_cancel_left, lm_b8a]
        unfold lm_ou lm_ok lm_og
        rw [if_pos hk, et, Nat.add_comm (j' * r) i', Nat.add_mul_div_right _ _ (by omega), Nat.div_eq_of_lt hi', Nat.add_mul_mod_self_right, Nat.mod_eq_of_lt hi', Nat.zero_add, g5]] at e
      exact e
    by_cases c : i < r
    · exact go j i n1 hj c h5 hfr (by
        rw [lm_u149a (i := i) (S := n1 223) hr (by rw [lm_fl_row q203]; exact h2) (by rw [lm_fl_row q203]; exact h3) rfl c])
    · have ci : i = r := by omega
      obtain ⟨n2, e2, s2, f2⟩ := lm_u149b (sc := sc) (d := d) (x := x) (r := r) (m := lm_fil m1 q a (a + t) (fun i => lm_ou (lm_tb m n) k r S (i - a))) (n := n1) (S := n1 223) (by omega) hr (by rw [lm_fl_row q203]; exact h2) (by rw [lm_fl_row q203, ← ci]; exact h3) rfl
      have e221 : lm_fil m1 q a (a + t) (fun i => lm_ou (lm_tb m n) k r S (i - a)) 221 = (lm_tb m n).1 := by rw [lm_fl_row (fun g => hq.2.2 g.symm), hfr.1 221 (by decide) (by decide)]; rfl
      have e222 : n1 222 = (lm_tb m n).2.1 := hfr.2.2 222 (by decide) (by decide) (by decide) (by decide) (by decide)
      rw [e221, e222, h5] at s2
      rw [e221, e222, h5] at e2
      refine go (j + 1) 0 n2 (by rw [hj, ci, Nat.add_mul, Nat.one_mul, Nat.add_zero]) (by omega) s2 ⟨hfr.1, hfr.2.1, fun p b1 b2 b3 b4 b5 => by rw [f2 p b2 b3 b4]; exact hfr.2.2 p b1 b2 b3 b4 b5⟩ ?_
      rw [s2]
      exact e2
theorem lm_l63h {q v a l : Nat} {S : Nat → Int64} (hk : ¬ 6 < k) (hr : r = 64 ∨ r = 128) (hq : q ≠ 203 ∧ q ≠ 227) (har : lm_ar q = some (1, v)) (hal : a + l ≤ v) (hv : v ≤ 70000) (hl : l ≤ 64) (hl2 : r = 64 → l ≤ 32) {m1 : lm_MI} {n1 : lm_ML} (h1 : m1 203 18 = Int32.ofNat k) (h2 : m1 203 19 = Int32.ofNat r) (h5 : n1 223 = S) {T : lm_TB} : ∀ u t, t + u = l → lm_rn sc (d + 3) lm_m63.2.2.2.2.1 (lm_reg lm_m63.2.2.2.2.2) (7, [(0, .ref 203), (1, .ref q), (2, .int (Int32.ofNat a)), (3, .int (Int32.ofNat l)), (4, .int (Int32.ofNat t))], []) (lm_w (lm_fil m1 q a (a + t) (fun i => lm_ou T k r S (i - a))) n1 x) = some (.ok none, lm_w (lm_fil m1 q a (a + l) (fun i => lm_ou T k r S (i - a))) n1 x) := by
  have q203 : 203 ≠ q := fun g => hq.1 g.symm
  intro u
  induction u with
  | zero =>
    intro t ht
    have ht : t = l := ht
    subst ht
    refine lm_e63_7 ?_
    unfold lm_q63_7
    exact lm_geT (by omega) (by omega) (by omega) rfl
  | succ u ih =>
    intro t ht
    have e := ih (t + 1) (by omega)
    rw [← Nat.add_assoc a t 1, ← lm_fl_step (g := fun i => lm_ou T k r S (i - a)) (by omega)] at e
    rw [show lm_ou T k r S (a + t - a) = if r = 64 then lm_o2 S t else lm_o5 S t by
      rw [Nat.add_sub_cancel_left]
      unfold lm_ou
      rw [if_neg hk]] at e
    refine lm_e63_7 ?_
    unfold lm_q63_7
    refine lm_geF (by omega) (by omega) (by omega) ?_
    repeat (first
    | ((with_reducible apply lm_sI); exact rfl)
    | ((with_reducible apply lm_sR); exact rfl)
    | ((with_reducible apply lm_sS); exact rfl; exact rfl)
    | ((with_reducible apply lm_sL); exact rfl)
    | ((with_reducible apply lm_sP); exact rfl; exact rfl)
    | ((with_reducible apply lm_sPL); exact rfl; exact rfl)
    | ((with_reducible apply lm_sAA); exact rfl; first | exact rfl | exact lm_roO (by omega) | exact lm_roM (by omega))
    | ((with_reducible apply lm_sI); exact lm_fpL (by omega))
    | ((with_reducible apply lm_sR); exact lm_fpB (by omega))
    | ((with_reducible apply lm_sP); exact lm_fpL (by omega); exact rfl)
    | ((with_reducible apply lm_sS); exact lm_ocO (by omega); exact rfl)
    | ((with_reducible apply lm_sA); exact rfl; omega)
    | ((with_reducible apply lm_sJ); exact rfl; omega)
    | ((with_reducible apply lm_sB); (first | exact rfl | exact lm_arB (by omega) | exact lm_arM (by omega)); omega)
    | ((with_reducible apply lm_wA); exact rfl; omega)
    | ((with_reducible apply lm_wJ); exact rfl; omega)
    | ((with_reducible apply lm_wB); (first | exact rfl | exact lm_arB (by omega) | exact lm_arM (by omega)); omega)
    | ((with_reducible apply lm_sAl); (first | exact rfl | exact lm_arB (by omega) | exact lm_arM (by omega)); omega)
    | ((with_reducible apply lm_iW); decide))
    refine lm_cI (lm_u148 (d := d + 2) (k := k) (by rw [lm_fl_row q203]; exact h1) (by omega)) ?_
    rw [decide_eq_false hk]
    refine lm_iT (show (0 : Int32) = 0 by decide) ?_
    repeat (first
    | ((with_reducible apply lm_sI); exact rfl)
    | ((with_reducible apply lm_sR); exact rfl)
    | ((with_reducible apply lm_sS); exact rfl; exact rfl)
    | ((with_reducible apply lm_sL); exact rfl)
    | ((with_reducible apply lm_sP); exact rfl; exact rfl)
    | ((with_reducible apply lm_sPL); exact rfl; exact rfl)
    | ((with_reducible apply lm_sAA); exact rfl; first | exact rfl | exact lm_roO (by omega) | exact lm_roM (by omega))
    | ((with_reducible apply lm_sI); exact lm_fpL (by omega))
    | ((with_reducible apply lm_sR); exact lm_fpB (by omega))
    | ((with_reducible apply lm_sP); exact lm_fpL (by omega); exact rfl)
    | ((with_reducible apply lm_sS); exact lm_ocO (by omega); exact rfl)
    | ((with_reducible apply lm_sA); exact rfl; omega)
    | ((with_reducible apply lm_sJ); exact rfl; omega)
    | ((with_reducible apply lm_sB); (first | exact rfl | exact lm_arB (by omega) | exact lm_arM (by omega)); omega)
    | ((with_reducible apply lm_wA); exact rfl; omega)
    | ((with_reducible apply lm_wJ); exact rfl; omega)
    | ((with_reducible apply lm_wB); (first | exact rfl | exact lm_arB (by omega) | exact lm_arM (by omega)); omega)
    | ((with_reducible apply lm_sAl); (first | exact rfl | exact lm_arB (by omega) | exact lm_arM (by omega)); omega)
    | ((with_reducible apply lm_iW); decide))
    simp only [Nat.reduceDiv, Nat.reduceMod]
    rw [lm_fl_row q203, h2, lm_K64]
    by_cases c : r = 64
    · rw [if_pos c] at e
      refine lm_neF (by omega) (by omega) (fun g => g c) ?_
      simp only [lm_K4, lm_K8, lm_K24]
      have := hl2 c
      rw [lm_od (by omega) (by omega)]
      repeat (first
    | ((with_reducible apply lm_sI); exact rfl)
    | ((with_reducible apply lm_sR); exact rfl)
    | ((with_reducible apply lm_sS); exact rfl; exact rfl)
    | ((with_reducible apply lm_sL); exact rfl)
    | ((with_reducible apply lm_sP); exact rfl; exact rfl)
    | ((with_reducible apply lm_sPL); exact rfl; exact rfl)
    | ((with_reducible apply lm_sAA); exact rfl; first | exact rfl | exact lm_roO (by omega) | exact lm_roM (by omega))
    | ((with_reducible apply lm_sI); exact lm_fpL (by omega))
    | ((with_reducible apply lm_sR); exact lm_fpB (by omega))
    | ((with_reducible apply lm_sP); exact lm_fpL (by omega); exact rfl)
    | ((with_reducible apply lm_sS); exact lm_ocO (by omega); exact rfl)
    | ((with_reducible apply lm_sA); exact rfl; omega)
    | ((with_reducible apply lm_sJ); exact rfl; omega)
    | ((with_reducible apply lm_sB); (first | exact rfl | exact lm_arB (by omega) | exact lm_arM (by omega)); omega)
    | ((with_reducible apply lm_wA); exact rfl; omega)
    | ((with_reducible apply lm_wJ); exact rfl; omega)
    | ((with_reducible apply lm_wB); (first | exact rfl | exact lm_arB (by omega) | exact lm_arM (by omega)); omega)
    | ((with_reducible apply lm_sAl); (first | exact rfl | exact lm_arB (by omega) | exact lm_arM (by omega)); omega)
    | ((with_reducible apply lm_iW); decide))
      rw [lm_orm (by omega) (by omega), lm_om, lm_osu (by omega), h5, lm_oo]
      refine lm_e63_93 ?_
      unfold lm_q63_93
      refine lm_wB har (by omega) ?_
      refine lm_e63_96 ?_
      unfold lm_q63_96
      rw [show Int32.ofNat t + Int32.ofInt 1 = Int32.ofNat (t + 1) from lm_oa t 1]
      exact e
    · rw [if_neg c] at e
      refine lm_neT (by omega) (by omega) c ?_
      simp only [lm_K8, lm_K56]
      rw [lm_od (by omega) (by omega)]
      repeat (first
    | ((with_reducible apply lm_sI); exact rfl)
    | ((with_reducible apply lm_sR); exact rfl)
    | ((with_reducible apply lm_sS); exact rfl; exact rfl)
    | ((with_reducible apply lm_sL); exact rfl)
    | ((with_reducible apply lm_sP); exact rfl; exact rfl)
    | ((with_reducible apply lm_sPL); exact rfl; exact rfl)
    | ((with_reducible apply lm_sAA); exact rfl; first | exact rfl | exact lm_roO (by omega) | exact lm_roM (by omega))
    | ((with_reducible apply lm_sI); exact lm_fpL (by omega))
    | ((with_reducible apply lm_sR); exact lm_fpB (by omega))
    | ((with_reducible apply lm_sP); exact lm_fpL (by omega); exact rfl)
    | ((with_reducible apply lm_sS); exact lm_ocO (by omega); exact rfl)
    | ((with_reducible apply lm_sA); exact rfl; omega)
    | ((with_reducible apply lm_sJ); exact rfl; omega)
    | ((with_reducible apply lm_sB); (first | exact rfl | exact lm_arB (by omega) | exact lm_arM (by omega)); omega)
    | ((with_reducible apply lm_wA); exact rfl; omega)
    | ((with_reducible apply lm_wJ); exact rfl; omega)
    | ((with_reducible apply lm_wB); (first | exact rfl | exact lm_arB (by omega) | exact lm_arM (by omega)); omega)
    | ((with_reducible apply lm_sAl); (first | exact rfl | exact lm_arB (by omega) | exact lm_arM (by omega)); omega)
    | ((with_reducible apply lm_iW); decide))
      rw [lm_orm (by omega) (by omega), lm_om, lm_osu (by omega), h5, lm_oo]
      refine lm_e63_93 ?_
      unfold lm_q63_93
      refine lm_wB har (by omega) ?_
      refine lm_e63_96 ?_
      unfold lm_q63_96
      rw [show Int32.ofNat t + Int32.ofInt 1 = Int32.ofNat (t + 1) from lm_oa t 1]
      exact e
theorem lm_u63 {q v a l : Nat} (hr : lm_kr k r) (hrp : 64 ≤ r) (hq : q ≠ 203 ∧ q ≠ 227 ∧ q ≠ 221) (har : lm_ar q = some (1, v)) (hal : a + l ≤ v) (hv : v ≤ 70000) (hl : k ≤ 6 → l ≤ 64 ∧ (r = 64 → l ≤ 32)) (hf : h.1 < r) (hS : lm_HS m n k r h) : ∃ m' n', lm_cal sc (d + 5) 63 [.ref 203, .ref q, .int (Int32.ofNat a), .int (Int32.ofNat l)] (lm_w m n x) = some (.ok none, lm_w (lm_fil m' q a (a + l) (fun i => lm_ou (lm_tb m n) k r (lm_hf (lm_tb m n) k r h).2.2.1 (i - a))) n' x) ∧ lm_fh m n m' n' := by
  obtain ⟨m1, n1, e1, s1, f1⟩ := lm_u147 (sc := sc) (d := d) (x := x) hr hrp hf hS
  obtain ⟨a1, a2, a3, a4, a5, a6⟩ := s1
  have start : ∀ R, lm_rn sc (d + 4) lm_m63.2.2.2.2.1 (lm_reg lm_m63.2.2.2.2.2) (7, [(0, .ref 203), (1, .ref q), (2, .int (Int32.ofNat a)), (3, .int (Int32.ofNat l)), (4, .int (Int32.ofNat 0))], []) (lm_w m1 n1 x) = some R → lm_cal sc (d + 5) 63 [.ref 203, .ref q, .int (Int32.ofNat a), .int (Int32.ofNat l)] (lm_w m n x) = some R := by
    intro R K
    refine lm_cal_of (Y := lm_m63) rfl rfl (lm_e63_0 ?_)
    unfold lm_q63_0
    repeat (first
    | ((with_reducible apply lm_sI); exact rfl)
    | ((with_reducible apply lm_sR); exact rfl)
    | ((with_reducible apply lm_sS); exact rfl; exact rfl)
    | ((with_reducible apply lm_sL); exact rfl)
    | ((with_reducible apply lm_sP); exact rfl; exact rfl)
    | ((with_reducible apply lm_sPL); exact rfl; exact rfl)
    | ((with_reducible apply lm_sAA); exact rfl; first | exact rfl | exact lm_roO (by omega) | exact lm_roM (by omega))
    | ((with_reducible apply lm_sI); exact lm_fpL (by omega))
    | ((with_reducible apply lm_sR); exact lm_fpB (by omega))
    | ((with_reducible apply lm_sP); exact lm_fpL (by omega); exact rfl)
    | ((with_reducible apply lm_sS); exact lm_ocO (by omega); exact rfl)
    | ((with_reducible apply lm_sA); exact rfl; omega)
    | ((with_reducible apply lm_sJ); exact rfl; omega)
    | ((with_reducible apply lm_sB); (first | exact rfl | exact lm_arB (by omega) | exact lm_arM (by omega)); omega)
    | ((with_reducible apply lm_wA); exact rfl; omega)
    | ((with_reducible apply lm_wJ); exact rfl; omega)
    | ((with_reducible apply lm_wB); (first | exact rfl | exact lm_arB (by omega) | exact lm_arM (by omega)); omega)
    | ((with_reducible apply lm_sAl); (first | exact rfl | exact lm_arB (by omega) | exact lm_arM (by omega)); omega)
    | ((with_reducible apply lm_iW); decide))
    refine lm_cV e1 ?_
    exact K
  by_cases c : 6 < k
  · have ef : (lm_hf (lm_tb m n) k r h).1 = 0 := by unfold lm_hf; rw [if_pos c]
    rw [ef] at a3
    obtain ⟨m', n', e, f⟩ := lm_l63s (sc := sc) (d := d + 1) (x := x) (m := m) (n := n) (S := (lm_hf (lm_tb m n) k r h).2.2.1) c hr.1 hrp hr.2.1 hq har hal hv l 0 0 0 m1 n1 (by omega) (by omega) (by omega) a1 a2 a3 a5 f1
    rw [Nat.add_zero a, lm_fl_nil] at e
    exact ⟨m', n', start _ e, f⟩
  · have e := lm_l63h (sc := sc) (d := d + 1) (x := x) (S := (lm_hf (lm_tb m n) k r h).2.2.1) c (hr.2.2 (by omega)) ⟨hq.1, hq.2.1⟩ har hal hv (hl (by omega)).1 (hl (by omega)).2 a1 a2 a5 (T := lm_tb m n) l 0 (by omega)
    rw [Nat.add_zero a, lm_fl_nil] at e
    exact ⟨m1, n1, start _ e, f1⟩
end LMGI
