/-! ===== HMAC: the keys of class and reference ===== -/
theorem lm_b8_w (a : Int32) : (lm_b8 a).toBitVec.setWidth 8 = a.toBitVec.setWidth 8 := by
  show (BitVec.signExtend 32 a.toInt8.toBitVec).setWidth 8 = _
  rw [lm_tI8]
  refine BitVec.eq_of_getLsbD_eq fun i hi => ?_
  rw [BitVec.getLsbD_setWidth, BitVec.getLsbD_signExtend]
  have h1 : i < 32 := by omega
  simp [hi, h1]
theorem lm_b8x (a c : Int32) : lm_b8 (lm_b8 a ^^^ c) = lm_b8 (a ^^^ c) := by
  refine lm_b8_of ?_
  show BitVec.setWidth 8 ((lm_b8 a).toBitVec ^^^ c.toBitVec) = BitVec.setWidth 8 (a.toBitVec ^^^ c.toBitVec)
  rw [BitVec.setWidth_xor, BitVec.setWidth_xor, lm_b8_w]
theorem lm_b8x2 (a : Int32) : lm_b8 (lm_b8 (lm_b8 (lm_b8 a ^^^ lm_b8 (Int32.ofInt 54))) ^^^ lm_b8 (Int32.ofInt 106)) = lm_b8 (lm_b8 a ^^^ Int32.ofInt 92) := by
  rw [lm_b8x, lm_b8x, lm_b8x, Int32.xor_assoc, lm_b8x]
  exact congrArg (fun z => lm_b8 (a ^^^ z)) (by decide)
section LMMA
variable {sc : lm_H} {d k r : Nat} {m : lm_MI} {n : lm_ML} {x : lm_H × Nat × Nat} {h : lm_HV}
/-- for SHA-2 only the byte counts -/
theorem lm_hp_b8 {T : lm_TB} {v : Int32} (hk : ¬ 6 < k) : lm_hp T k r (lm_b8 v) h = lm_hp T k r v h := by
  have e1 : lm_hS k (lm_b8 v) h = lm_hS k v h := by unfold lm_hS; rw [if_neg hk, if_neg hk]
  have e2 : lm_hB k (lm_b8 v) h = lm_hB k v h := by unfold lm_hB; rw [if_neg hk, if_neg hk, lm_b8b]
  unfold lm_hp
  rw [e1, e2]
theorem lm_hps_b8 {T : lm_TB} {g g' : Nat → Int32} (hk : ¬ 6 < k) : ∀ c a (h : lm_HV), (∀ i, a ≤ i → i < a + c → lm_b8 (g i) = lm_b8 (g' i)) → lm_hps T k r g c a h = lm_hps T k r g' c a h := by
  intro c
  induction c with
  | zero => intro a h _; rfl
  | succ c ih =>
    intro a h e
    show lm_hps T k r g c (a + 1) (lm_hp T k r (g a) h) = lm_hps T k r g' c (a + 1) (lm_hp T k r (g' a) h)
    rw [← lm_hp_b8 hk (v := g a), e a (by omega) (by omega), lm_hp_b8 hk]
    exact ih (a + 1) _ (fun i h1 h2 => e i (by omega) (by omega))
theorem lm_l203 {v : Int32} : ∀ j t, t + j = 128 → lm_rn sc d lm_m203.2.2.2.2.1 (lm_reg lm_m203.2.2.2.2.2) (2, [(0, .ref 4), (1, .int v), (2, .int (Int32.ofNat t))], []) (lm_w (lm_fil m 23 0 t (fun i => lm_b8 (lm_b8 (m 23 i) ^^^ lm_b8 v))) n x) = some (.ok none, lm_w (lm_fil m 23 0 128 (fun i => lm_b8 (lm_b8 (m 23 i) ^^^ lm_b8 v))) n x) := by
  intro j
  induction j with
  | zero =>
    intro t ht
    have ht : t = 128 := ht
    subst ht
    refine lm_e203_2 ?_
    unfold lm_q203_2
    repeat (first
    | ((with_reducible apply lm_sI); exact rfl)
    | ((with_reducible apply lm_sR); exact rfl)
    | ((with_reducible apply lm_sS); exact rfl; exact rfl)
    | ((with_reducible apply lm_sL); exact rfl)
    | ((with_reducible apply lm_sP); exact rfl; exact rfl)
    | ((with_reducible apply lm_sPL); exact rfl; exact rfl)
    | ((with_reducible apply lm_sAA); exact rfl; first | exact rfl | exact lm_roO (by omega) | exact lm_roM (by omega))
    | ((with_reducible apply lm_sI); exact lm_fpL (by omega))
    | ((with_reducible apply lm_sR); exact lm_fpB (by omega))
    | ((with_reducible apply lm_sP); exact lm_fpL (by omega); exact rfl)
    | ((with_reducible apply lm_sS); exact lm_ocO (by omega); exact rfl)
    | ((with_reducible apply lm_sA); exact rfl; omega)
    | ((with_reducible apply lm_sJ); exact rfl; omega)
    | ((with_reducible apply lm_sB); (first | exact rfl | exact lm_arB (by omega) | exact lm_arM (by omega)); omega)
    | ((with_reducible apply lm_wA); exact rfl; omega)
    | ((with_reducible apply lm_wJ); exact rfl; omega)
    | ((with_reducible apply lm_wB); (first | exact rfl | exact lm_arB (by omega) | exact lm_arM (by omega)); omega)
    | ((with_reducible apply lm_sAl); (first | exact rfl | exact lm_arB (by omega) | exact lm_arM (by omega)); omega)
    | ((with_reducible apply lm_iW); decide))
    exact lm_geT (by omega) (by omega) (by omega) rfl
  | succ j ih =>
    intro t ht
    have I := ih (t + 1) (by omega)
    rw [← lm_fl_step (g := fun i => lm_b8 (lm_b8 (m 23 i) ^^^ lm_b8 v)) (by omega)] at I
    refine lm_e203_2 ?_
    unfold lm_q203_2
    repeat (first
    | ((with_reducible apply lm_sI); exact rfl)
    | ((with_reducible apply lm_sR); exact rfl)
    | ((with_reducible apply lm_sS); exact rfl; exact rfl)
    | ((with_reducible apply lm_sL); exact rfl)
    | ((with_reducible apply lm_sP); exact rfl; exact rfl)
    | ((with_reducible apply lm_sPL); exact rfl; exact rfl)
    | ((with_reducible apply lm_sAA); exact rfl; first | exact rfl | exact lm_roO (by omega) | exact lm_roM (by omega))
    | ((with_reducible apply lm_sI); exact lm_fpL (by omega))
    | ((with_reducible apply lm_sR); exact lm_fpB (by omega))
    | ((with_reducible apply lm_sP); exact lm_fpL (by omega); exact rfl)
    | ((with_reducible apply lm_sS); exact lm_ocO (by omega); exact rfl)
    | ((with_reducible apply lm_sA); exact rfl; omega)
    | ((with_reducible apply lm_sJ); exact rfl; omega)
    | ((with_reducible apply lm_sB); (first | exact rfl | exact lm_arB (by omega) | exact lm_arM (by omega)); omega)
    | ((with_reducible apply lm_wA); exact rfl; omega)
    | ((with_reducible apply lm_wJ); exact rfl; omega)
    | ((with_reducible apply lm_wB); (first | exact rfl | exact lm_arB (by omega) | exact lm_arM (by omega)); omega)
    | ((with_reducible apply lm_sAl); (first | exact rfl | exact lm_arB (by omega) | exact lm_arM (by omega)); omega)
    | ((with_reducible apply lm_iW); decide))
    refine lm_geF (by omega) (by omega) (by omega) ?_
    repeat (first
    | ((with_reducible apply lm_sI); exact rfl)
    | ((with_reducible apply lm_sR); exact rfl)
    | ((with_reducible apply lm_sS); exact rfl; exact rfl)
    | ((with_reducible apply lm_sL); exact rfl)
    | ((with_reducible apply lm_sP); exact rfl; exact rfl)
    | ((with_reducible apply lm_sPL); exact rfl; exact rfl)
    | ((with_reducible apply lm_sAA); exact rfl; first | exact rfl | exact lm_roO (by omega) | exact lm_roM (by omega))
    | ((with_reducible apply lm_sI); exact lm_fpL (by omega))
    | ((with_reducible apply lm_sR); exact lm_fpB (by omega))
    | ((with_reducible apply lm_sP); exact lm_fpL (by omega); exact rfl)
    | ((with_reducible apply lm_sS); exact lm_ocO (by omega); exact rfl)
    | ((with_reducible apply lm_sA); exact rfl; omega)
    | ((with_reducible apply lm_sJ); exact rfl; omega)
    | ((with_reducible apply lm_sB); (first | exact rfl | exact lm_arB (by omega) | exact lm_arM (by omega)); omega)
    | ((with_reducible apply lm_wA); exact rfl; omega)
    | ((with_reducible apply lm_wJ); exact rfl; omega)
    | ((with_reducible apply lm_wB); (first | exact rfl | exact lm_arB (by omega) | exact lm_arM (by omega)); omega)
    | ((with_reducible apply lm_sAl); (first | exact rfl | exact lm_arB (by omega) | exact lm_arM (by omega)); omega)
    | ((with_reducible apply lm_iW); decide))
    rw [lm_fl_out (by omega), show Int32.ofNat t + Int32.ofInt 1 = Int32.ofNat (t + 1) from lm_oa t 1]
    exact I
theorem lm_u203 {v : Int32} : lm_cal sc (d + 1) 203 [.ref 4, .int v] (lm_w m n x) = some (.ok none, lm_w (lm_fil m 23 0 128 (fun i => lm_b8 (lm_b8 (m 23 i) ^^^ lm_b8 v))) n x) := by
  have L := lm_l203 (sc := sc) (d := d) (m := m) (n := n) (x := x) (v := v) 128 0 rfl
  rw [lm_fl_nil] at L
  refine lm_cal_of (Y := lm_m203) rfl rfl (lm_e203_0 ?_)
  unfold lm_q203_0
  exact L
/-- move of the reference -/
theorem lm_l75 {q p v w a b l : Nat} (h1 : lm_ar q = some (1, v)) (h2 : lm_ar p = some (1, w)) (hqp : q ≠ p) (ha : a + l ≤ v) (hb : b + l ≤ w) (hv : v ≤ 70000) (hw : w ≤ 70000) : ∀ j t, t + j = l → lm_rn sc d lm_m75.2.2.2.2.1 (lm_reg lm_m75.2.2.2.2.2) (3, [(0, .ref q), (1, .int (Int32.ofNat a)), (2, .ref p), (3, .int (Int32.ofNat b)), (4, .int (Int32.ofNat l)), (5, .int (Int32.ofNat t))], []) (lm_w (lm_fil m p b (b + t) (fun i => lm_b8 (m q (a + (i - b))))) n x) = some (.ok none, lm_w (lm_fil m p b (b + l) (fun i => lm_b8 (m q (a + (i - b))))) n x) := by
  intro j
  induction j with
  | zero =>
    intro t ht
    have ht : t = l := ht
    subst ht
    refine lm_e75_3 ?_
    unfold lm_q75_3
    exact lm_geT (by omega) (by omega) (by omega) rfl
  | succ j ih =>
    intro t ht
    have I := ih (t + 1) (by omega)
    rw [← Nat.add_assoc b t 1, ← lm_fl_step (g := fun i => lm_b8 (m q (a + (i - b)))) (by omega)] at I
    refine lm_e75_3 ?_
    unfold lm_q75_3
    refine lm_geF (by omega) (by omega) (by omega) ?_
    rw [lm_oo, lm_oo]
    refine lm_sB h1 (by omega) ?_
    rw [lm_fl_row hqp]
    refine lm_wB h2 (by omega) ?_
    rw [show Int32.ofNat t + Int32.ofInt 1 = Int32.ofNat (t + 1) from lm_oa t 1]
    rw [show lm_b8 (m q (a + (b + t - b))) = lm_b8 (m q (a + t)) by rw [Nat.add_sub_cancel_left]] at I
    exact I
theorem lm_u75 {q p v w a b l : Nat} (h1 : lm_ar q = some (1, v)) (h2 : lm_ar p = some (1, w)) (hqp : q ≠ p) (ha : a + l ≤ v) (hb : b + l ≤ w) (hv : v ≤ 70000) (hw : w ≤ 70000) : lm_cal sc (d + 1) 75 [.ref q, .int (Int32.ofNat a), .ref p, .int (Int32.ofNat b), .int (Int32.ofNat l)] (lm_w m n x) = some (.ok none, lm_w (lm_fil m p b (b + l) (fun i => lm_b8 (m q (a + (i - b))))) n x) := by
  have L := lm_l75 (sc := sc) (d := d) (m := m) (n := n) (x := x) h1 h2 hqp ha hb hv hw l 0 (by omega)
  rw [Nat.add_zero b, lm_fl_nil] at L
  refine lm_cal_of (Y := lm_m75) rfl rfl (lm_e75_0 ?_)
  unfold lm_q75_0
  exact L
/-- the rate, of the object -/
theorem lm_CS_r (h1 : 1 ≤ k) (h2 : k ≤ 12) (hC : lm_CS m n k h) {β : Type} {f : Int32 → lm_M β} {o : Option (Except Nat β × lm_S)} (K : f (Int32.ofNat (lm_rate k)) (lm_w m n x) = o) : lm_bind (lm_gI 1204 (lm_obj k)) f (lm_w m n x) = o := by
  have hrk := lm_rate_k h1 h2
  unfold lm_CS at hC
  unfold lm_obj
  rcases lm_kinds h1 h2 with c | ⟨c, c2, c3⟩ | ⟨c, c2, c3⟩
  · rw [if_pos c] at hC hrk ⊢
    rw [hrk] at K
    obtain ⟨⟨a1, a2, a5, a6, a7, a8⟩, _⟩ := hC
    refine lm_sI rfl ?_
    simp only [Nat.reduceDiv, Nat.reduceMod, a5]
    exact K
  · rw [if_neg c, if_pos c2] at hC hrk ⊢
    rw [hrk] at K
    obtain ⟨⟨a1, a2, a5, a6, a7, a8⟩, _⟩ := hC
    refine lm_sI rfl ?_
    simp only [Nat.reduceDiv, Nat.reduceMod, a5]
    exact K
  · rw [if_neg c, if_neg c2] at hC ⊢
    obtain ⟨⟨a1, a2, a3, a4, a5, a6, a7⟩, _⟩ := hC
    refine lm_sI rfl ?_
    simp only [Nat.reduceDiv, Nat.reduceMod, a5]
    exact K
/-- outside the hash's places nothing is read of it -/
theorem lm_CS_m {m' : lm_MI} {n' : lm_ML} (h1 : 1 ≤ k) (h2 : k ≤ 12) (hC : lm_CS m n k h) (e : ∀ q, 4 < q → q < 23 → m' q = m q) (e2 : ∀ q, 4 < q → q < 23 → n' q = n q) : lm_CS m' n' k h := by
  unfold lm_CS lm_C5 lm_C11 lm_C17 at *
  rw [e 5 (by decide) (by decide), e 6 (by decide) (by decide), e 11 (by decide) (by decide), e 12 (by decide) (by decide), e 14 (by decide) (by decide), e 17 (by decide) (by decide), e 18 (by decide) (by decide), e2 5 (by decide) (by decide), e2 8 (by decide) (by decide), e2 11 (by decide) (by decide), e2 17 (by decide) (by decide), e2 20 (by decide) (by decide)]
  exact hC
end LMMA
