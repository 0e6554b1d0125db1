/-! ===== MGF1 of the class: mark, recall ===== -/
/-- the four bytes of a counter -/
def lm_ctr4 (c : Int32) (t : Nat) : Int32 := if t = 0 then lm_b8 (c >>> 24) else if t = 1 then lm_b8 (c >>> 16) else if t = 2 then lm_b8 (c >>> 8) else lm_b8 c
theorem lm_pt_ctr4 {m : lm_MI} {q : Nat} {c : Int32} : ∀ t, t < 4 → lm_pt m q 0 c q t = lm_ctr4 c t := by
  intro t ht
  unfold lm_pt lm_ctr4
  match t, ht with
  | 0, _ => rw [lm_u_ne (by omega), lm_u_ne (by omega), lm_u_ne (by omega), lm_u_eq]; rfl
  | 1, _ => rw [lm_u_ne (by omega), lm_u_ne (by omega), lm_u_eq]; rfl
  | 2, _ => rw [lm_u_ne (by omega), lm_u_eq]; rfl
  | 3, _ => rw [lm_u_eq]; rfl
section LMMK
variable {xs : List Int32} {d b : Nat} {m : lm_MI} {n : lm_ML} {x : lm_H × Nat × Nat} {h : lm_HV}
def lm_KP11 (m : lm_MI) (n : lm_ML) (h : lm_HV) : Prop := m 11 5 = Int32.ofNat h.1 ∧ n 11 6 = h.2.1 ∧ (∀ i, i < h.1 → lm_b8 (m 13 i) = lm_b8 (h.2.2.2 i)) ∧ (∀ i, i < 8 → m 15 i = Int64.toInt32 (h.2.2.1 i))
theorem lm_KP11.fa {m' : lm_MI} {n' : lm_ML} (k : lm_KP11 m n h) (f : lm_fa 11 15 m n m' n') : lm_KP11 m' n' h := by
  obtain ⟨k1, k2, k3, k4⟩ := k
  obtain ⟨a1, a2, a3, a4, a5, a6, a7⟩ := f
  exact ⟨(a3 5 (by decide)).trans k1, (a4 6 (by decide)).trans k2, fun i hi => by rw [a5]; exact k3 i hi, fun i hi => by rw [a6]; exact k4 i hi⟩
theorem lm_u279 : lm_cal (lm_sc xs) (d + 1) 279 [.ref 11] (lm_w m n x) = some (.ok none, lm_w (lm_cp m 15 0 14 0 8) n x) := by
  refine lm_cal_of (Y := lm_m279) rfl rfl (lm_e279_0 ?_)
  unfold lm_q279_0
  rw [lm_K0, lm_K8]
  repeat (first
    | ((with_reducible apply lm_sI); exact rfl)
    | ((with_reducible apply lm_sR); exact rfl)
    | ((with_reducible apply lm_sS); exact rfl; exact rfl)
    | ((with_reducible apply lm_sL); exact rfl)
    | ((with_reducible apply lm_sP); exact rfl; exact rfl)
    | ((with_reducible apply lm_sPL); exact rfl; exact rfl)
    | ((with_reducible apply lm_sAA); exact rfl; first | exact rfl | exact lm_roO (by omega) | exact lm_roM (by omega))
    | ((with_reducible apply lm_sI); exact lm_fpL (by omega))
    | ((with_reducible apply lm_sR); exact lm_fpB (by omega))
    | ((with_reducible apply lm_sP); exact lm_fpL (by omega); exact rfl)
    | ((with_reducible apply lm_sS); exact lm_ocO (by omega); exact rfl)
    | ((with_reducible apply lm_sA); exact rfl; omega)
    | ((with_reducible apply lm_sJ); exact rfl; omega)
    | ((with_reducible apply lm_sB); (first | exact rfl | exact lm_arB (by omega) | exact lm_arM (by omega)); omega)
    | ((with_reducible apply lm_wA); exact rfl; omega)
    | ((with_reducible apply lm_wJ); exact rfl; omega)
    | ((with_reducible apply lm_wB); (first | exact rfl | exact lm_arB (by omega) | exact lm_arM (by omega)); omega)
    | ((with_reducible apply lm_sAl); (first | exact rfl | exact lm_arB (by omega) | exact lm_arM (by omega)); omega)
    | ((with_reducible apply lm_iW); decide))
  refine lm_sCp rfl rfl (Or.inl rfl) (by decide) (by decide) ?_
  exact rfl
theorem lm_u282 : lm_cal (lm_sc xs) (d + 1) 282 [.ref 11] (lm_w m n x) = some (.ok none, lm_w (lm_cp m 14 0 15 0 8) n x) := by
  refine lm_cal_of (Y := lm_m282) rfl rfl (lm_e282_0 ?_)
  unfold lm_q282_0
  rw [lm_K0, lm_K8]
  repeat (first
    | ((with_reducible apply lm_sI); exact rfl)
    | ((with_reducible apply lm_sR); exact rfl)
    | ((with_reducible apply lm_sS); exact rfl; exact rfl)
    | ((with_reducible apply lm_sL); exact rfl)
    | ((with_reducible apply lm_sP); exact rfl; exact rfl)
    | ((with_reducible apply lm_sPL); exact rfl; exact rfl)
    | ((with_reducible apply lm_sAA); exact rfl; first | exact rfl | exact lm_roO (by omega) | exact lm_roM (by omega))
    | ((with_reducible apply lm_sI); exact lm_fpL (by omega))
    | ((with_reducible apply lm_sR); exact lm_fpB (by omega))
    | ((with_reducible apply lm_sP); exact lm_fpL (by omega); exact rfl)
    | ((with_reducible apply lm_sS); exact lm_ocO (by omega); exact rfl)
    | ((with_reducible apply lm_sA); exact rfl; omega)
    | ((with_reducible apply lm_sJ); exact rfl; omega)
    | ((with_reducible apply lm_sB); (first | exact rfl | exact lm_arB (by omega) | exact lm_arM (by omega)); omega)
    | ((with_reducible apply lm_wA); exact rfl; omega)
    | ((with_reducible apply lm_wJ); exact rfl; omega)
    | ((with_reducible apply lm_wB); (first | exact rfl | exact lm_arB (by omega) | exact lm_arM (by omega)); omega)
    | ((with_reducible apply lm_sAl); (first | exact rfl | exact lm_arB (by omega) | exact lm_arM (by omega)); omega)
    | ((with_reducible apply lm_iW); decide))
  refine lm_sCp rfl rfl (Or.inl rfl) (by decide) (by decide) ?_
  exact rfl
theorem lm_u209_11 (hf : h.1 < 64) (hC : lm_C11 m n b 64 h) (ht : n 11 3 = h.2.1) : ∃ m' n', lm_cal (lm_sc xs) (d + 2) 209 [.ref 11] (lm_w m n x) = some (.ok none, lm_w m' n' x) ∧ lm_KP11 m' n' h ∧ lm_fC m n m' n' := by
  obtain ⟨c1, c2, c5, c6, c7, c8⟩ := hC
  refine ⟨lm_cp (lm_u (lm_cp m 13 0 12 0 h.1) 11 5 (Int32.ofNat h.1)) 15 0 14 0 8, lm_u n 11 6 h.2.1, ?_, ⟨?_, ?_, fun i hi => ?_, fun i hi => ?_⟩, fun q hq => ?_, fun q hq => ?_, ?_, ?_⟩
  · refine lm_cal_of (Y := lm_m209) rfl rfl (lm_e209_0 ?_)
    unfold lm_q209_0
    rw [lm_K0]
    repeat (first
    | ((with_reducible apply lm_sI); exact rfl)
    | ((with_reducible apply lm_sR); exact rfl)
    | ((with_reducible apply lm_sS); exact rfl; exact rfl)
    | ((with_reducible apply lm_sL); exact rfl)
    | ((with_reducible apply lm_sP); exact rfl; exact rfl)
    | ((with_reducible apply lm_sPL); exact rfl; exact rfl)
    | ((with_reducible apply lm_sAA); exact rfl; first | exact rfl | exact lm_roO (by omega) | exact lm_roM (by omega))
    | ((with_reducible apply lm_sI); exact lm_fpL (by omega))
    | ((with_reducible apply lm_sR); exact lm_fpB (by omega))
    | ((with_reducible apply lm_sP); exact lm_fpL (by omega); exact rfl)
    | ((with_reducible apply lm_sS); exact lm_ocO (by omega); exact rfl)
    | ((with_reducible apply lm_sA); exact rfl; omega)
    | ((with_reducible apply lm_sJ); exact rfl; omega)
    | ((with_reducible apply lm_sB); (first | exact rfl | exact lm_arB (by omega) | exact lm_arM (by omega)); omega)
    | ((with_reducible apply lm_wA); exact rfl; omega)
    | ((with_reducible apply lm_wJ); exact rfl; omega)
    | ((with_reducible apply lm_wB); (first | exact rfl | exact lm_arB (by omega) | exact lm_arM (by omega)); omega)
    | ((with_reducible apply lm_sAl); (first | exact rfl | exact lm_arB (by omega) | exact lm_arM (by omega)); omega)
    | ((with_reducible apply lm_iW); decide))
    simp only [Nat.reduceDiv, Nat.reduceMod, c6]
    refine lm_sCp rfl rfl (Or.inr rfl) (by omega) (by omega) ?_
    repeat (first
    | ((with_reducible apply lm_sI); exact rfl)
    | ((with_reducible apply lm_sR); exact rfl)
    | ((with_reducible apply lm_sS); exact rfl; exact rfl)
    | ((with_reducible apply lm_sL); exact rfl)
    | ((with_reducible apply lm_sP); exact rfl; exact rfl)
    | ((with_reducible apply lm_sPL); exact rfl; exact rfl)
    | ((with_reducible apply lm_sAA); exact rfl; first | exact rfl | exact lm_roO (by omega) | exact lm_roM (by omega))
    | ((with_reducible apply lm_sI); exact lm_fpL (by omega))
    | ((with_reducible apply lm_sR); exact lm_fpB (by omega))
    | ((with_reducible apply lm_sP); exact lm_fpL (by omega); exact rfl)
    | ((with_reducible apply lm_sS); exact lm_ocO (by omega); exact rfl)
    | ((with_reducible apply lm_sA); exact rfl; omega)
    | ((with_reducible apply lm_sJ); exact rfl; omega)
    | ((with_reducible apply lm_sB); (first | exact rfl | exact lm_arB (by omega) | exact lm_arM (by omega)); omega)
    | ((with_reducible apply lm_wA); exact rfl; omega)
    | ((with_reducible apply lm_wJ); exact rfl; omega)
    | ((with_reducible apply lm_wB); (first | exact rfl | exact lm_arB (by omega) | exact lm_arM (by omega)); omega)
    | ((with_reducible apply lm_sAl); (first | exact rfl | exact lm_arB (by omega) | exact lm_arM (by omega)); omega)
    | ((with_reducible apply lm_iW); decide))
    simp only [Nat.reduceDiv, Nat.reduceMod]
    rw [lm_cp_row (by decide), c6, ht]
    refine lm_cV (lm_u279 (d := d)) ?_
    exact rfl
  · rw [lm_cp_row (by decide), lm_u_eq]
  · exact lm_u_eq
  · rw [lm_cp_row (by decide), lm_u_row (by decide), lm_rc, if_pos (by omega)]; exact c8 i hi
  · rw [lm_rc, if_pos (by omega), lm_u_row (by decide), lm_cp_row (by decide)]; exact c7 i hi
  · rw [lm_cp_row (by omega), lm_u_row (by omega), lm_cp_row (by omega)]
  · rw [lm_u_row (by omega)]
  · rw [lm_cp_row (by decide), lm_u_ne (by decide), lm_cp_row (by decide)]
  · rw [lm_cp_row (by decide), lm_u_row (by decide), lm_cp_row (by decide)]
theorem lm_u210_11 (hb : ¬ 6 < b) (h1 : m 11 1 = Int32.ofNat 64) (hf : h.1 < 64) (hK : lm_KP11 m n h) : ∃ m' n', lm_cal (lm_sc xs) (d + 2) 210 [.ref 11] (lm_w m n x) = some (.ok none, lm_w m' n' x) ∧ lm_C11 m' n' b 64 h ∧ n' 11 3 = h.2.1 ∧ lm_fa 11 15 m n m' n' := by
  obtain ⟨k1, k2, k3, k4⟩ := hK
  refine ⟨lm_cp (lm_u (lm_cp m 12 0 13 0 h.1) 11 2 (Int32.ofNat h.1)) 14 0 15 0 8, lm_u n 11 3 h.2.1, ?_, ⟨hb, rfl, ?_, ?_, fun i hi => ?_, fun i hi => ?_⟩, ?_, fun q hq => ?_, fun q hq => ?_, fun j hj => ?_, fun j hj => ?_, ?_, ?_, ?_⟩
  · refine lm_cal_of (Y := lm_m210) rfl rfl (lm_e210_0 ?_)
    unfold lm_q210_0
    rw [lm_K0]
    repeat (first
    | ((with_reducible apply lm_sI); exact rfl)
    | ((with_reducible apply lm_sR); exact rfl)
    | ((with_reducible apply lm_sS); exact rfl; exact rfl)
    | ((with_reducible apply lm_sL); exact rfl)
    | ((with_reducible apply lm_sP); exact rfl; exact rfl)
    | ((with_reducible apply lm_sPL); exact rfl; exact rfl)
    | ((with_reducible apply lm_sAA); exact rfl; first | exact rfl | exact lm_roO (by omega) | exact lm_roM (by omega))
    | ((with_reducible apply lm_sI); exact lm_fpL (by omega))
    | ((with_reducible apply lm_sR); exact lm_fpB (by omega))
    | ((with_reducible apply lm_sP); exact lm_fpL (by omega); exact rfl)
    | ((with_reducible apply lm_sS); exact lm_ocO (by omega); exact rfl)
    | ((with_reducible apply lm_sA); exact rfl; omega)
    | ((with_reducible apply lm_sJ); exact rfl; omega)
    | ((with_reducible apply lm_sB); (first | exact rfl | exact lm_arB (by omega) | exact lm_arM (by omega)); omega)
    | ((with_reducible apply lm_wA); exact rfl; omega)
    | ((with_reducible apply lm_wJ); exact rfl; omega)
    | ((with_reducible apply lm_wB); (first | exact rfl | exact lm_arB (by omega) | exact lm_arM (by omega)); omega)
    | ((with_reducible apply lm_sAl); (first | exact rfl | exact lm_arB (by omega) | exact lm_arM (by omega)); omega)
    | ((with_reducible apply lm_iW); decide))
    simp only [Nat.reduceDiv, Nat.reduceMod, k1]
    refine lm_sCp rfl rfl (Or.inr rfl) (by omega) (by omega) ?_
    repeat (first
    | ((with_reducible apply lm_sI); exact rfl)
    | ((with_reducible apply lm_sR); exact rfl)
    | ((with_reducible apply lm_sS); exact rfl; exact rfl)
    | ((with_reducible apply lm_sL); exact rfl)
    | ((with_reducible apply lm_sP); exact rfl; exact rfl)
    | ((with_reducible apply lm_sPL); exact rfl; exact rfl)
    | ((with_reducible apply lm_sAA); exact rfl; first | exact rfl | exact lm_roO (by omega) | exact lm_roM (by omega))
    | ((with_reducible apply lm_sI); exact lm_fpL (by omega))
    | ((with_reducible apply lm_sR); exact lm_fpB (by omega))
    | ((with_reducible apply lm_sP); exact lm_fpL (by omega); exact rfl)
    | ((with_reducible apply lm_sS); exact lm_ocO (by omega); exact rfl)
    | ((with_reducible apply lm_sA); exact rfl; omega)
    | ((with_reducible apply lm_sJ); exact rfl; omega)
    | ((with_reducible apply lm_sB); (first | exact rfl | exact lm_arB (by omega) | exact lm_arM (by omega)); omega)
    | ((with_reducible apply lm_wA); exact rfl; omega)
    | ((with_reducible apply lm_wJ); exact rfl; omega)
    | ((with_reducible apply lm_wB); (first | exact rfl | exact lm_arB (by omega) | exact lm_arM (by omega)); omega)
    | ((with_reducible apply lm_sAl); (first | exact rfl | exact lm_arB (by omega) | exact lm_arM (by omega)); omega)
    | ((with_reducible apply lm_iW); decide))
    simp only [Nat.reduceDiv, Nat.reduceMod]
    rw [lm_cp_row (by decide), k1, k2]
    refine lm_cV (lm_u282 (d := d)) ?_
    exact rfl
  · rw [lm_cp_row (by decide), lm_u_ne (by decide), lm_cp_row (by decide)]; exact h1
  · rw [lm_cp_row (by decide), lm_u_eq]
  · rw [lm_rc, if_pos (by omega), lm_u_row (by decide), lm_cp_row (by decide)]; exact k4 i hi
  · rw [lm_cp_row (by decide), lm_u_row (by decide), lm_rc, if_pos (by omega)]; exact k3 i hi
  · exact lm_u_eq
  · rw [lm_cp_row (by omega), lm_u_row (by omega), lm_cp_row (by omega)]
  · rw [lm_u_row (by omega)]
  · rw [lm_cp_row (by decide), lm_u_ne (fun g => hj g.2), lm_cp_row (by decide)]
  · rw [lm_u_ne (fun g => hj g.2)]
  · rw [lm_cp_row (by decide), lm_u_row (by decide), lm_cp_row (by decide)]
  · rw [lm_cp_row (by decide), lm_u_row (by decide), lm_cp_row (by decide)]
  · rw [lm_u_row (by decide)]
def lm_KP17 (m : lm_MI) (n : lm_ML) (h : lm_HV) : Prop := m 17 5 = Int32.ofNat h.1 ∧ n 17 6 = h.2.1 ∧ (∀ i, i < h.1 → lm_b8 (m 19 i) = lm_b8 (h.2.2.2 i)) ∧ (∀ i, i < 8 → n 21 i = h.2.2.1 i)
theorem lm_KP17.fa {m' : lm_MI} {n' : lm_ML} (k : lm_KP17 m n h) (f : lm_fa 17 21 m n m' n') : lm_KP17 m' n' h := by
  obtain ⟨k1, k2, k3, k4⟩ := k
  obtain ⟨a1, a2, a3, a4, a5, a6, a7⟩ := f
  exact ⟨(a3 5 (by decide)).trans k1, (a4 6 (by decide)).trans k2, fun i hi => by rw [a5]; exact k3 i hi, fun i hi => by rw [a7]; exact k4 i hi⟩
theorem lm_u280 : lm_cal (lm_sc xs) (d + 1) 280 [.ref 17] (lm_w m n x) = some (.ok none, lm_w m (lm_cp n 21 0 20 0 8) x) := by
  refine lm_cal_of (Y := lm_m280) rfl rfl (lm_e280_0 ?_)
  unfold lm_q280_0
  rw [lm_K0, lm_K8]
  repeat (first
    | ((with_reducible apply lm_sI); exact rfl)
    | ((with_reducible apply lm_sR); exact rfl)
    | ((with_reducible apply lm_sS); exact rfl; exact rfl)
    | ((with_reducible apply lm_sL); exact rfl)
    | ((with_reducible apply lm_sP); exact rfl; exact rfl)
    | ((with_reducible apply lm_sPL); exact rfl; exact rfl)
    | ((with_reducible apply lm_sAA); exact rfl; first | exact rfl | exact lm_roO (by omega) | exact lm_roM (by omega))
    | ((with_reducible apply lm_sI); exact lm_fpL (by omega))
    | ((with_reducible apply lm_sR); exact lm_fpB (by omega))
    | ((with_reducible apply lm_sP); exact lm_fpL (by omega); exact rfl)
    | ((with_reducible apply lm_sS); exact lm_ocO (by omega); exact rfl)
    | ((with_reducible apply lm_sA); exact rfl; omega)
    | ((with_reducible apply lm_sJ); exact rfl; omega)
    | ((with_reducible apply lm_sB); (first | exact rfl | exact lm_arB (by omega) | exact lm_arM (by omega)); omega)
    | ((with_reducible apply lm_wA); exact rfl; omega)
    | ((with_reducible apply lm_wJ); exact rfl; omega)
    | ((with_reducible apply lm_wB); (first | exact rfl | exact lm_arB (by omega) | exact lm_arM (by omega)); omega)
    | ((with_reducible apply lm_sAl); (first | exact rfl | exact lm_arB (by omega) | exact lm_arM (by omega)); omega)
    | ((with_reducible apply lm_iW); decide))
  refine lm_sCpL rfl rfl (by decide) (by decide) ?_
  exact rfl
theorem lm_u283 : lm_cal (lm_sc xs) (d + 1) 283 [.ref 17] (lm_w m n x) = some (.ok none, lm_w m (lm_cp n 20 0 21 0 8) x) := by
  refine lm_cal_of (Y := lm_m283) rfl rfl (lm_e283_0 ?_)
  unfold lm_q283_0
  rw [lm_K0, lm_K8]
  repeat (first
    | ((with_reducible apply lm_sI); exact rfl)
    | ((with_reducible apply lm_sR); exact rfl)
    | ((with_reducible apply lm_sS); exact rfl; exact rfl)
    | ((with_reducible apply lm_sL); exact rfl)
    | ((with_reducible apply lm_sP); exact rfl; exact rfl)
    | ((with_reducible apply lm_sPL); exact rfl; exact rfl)
    | ((with_reducible apply lm_sAA); exact rfl; first | exact rfl | exact lm_roO (by omega) | exact lm_roM (by omega))
    | ((with_reducible apply lm_sI); exact lm_fpL (by omega))
    | ((with_reducible apply lm_sR); exact lm_fpB (by omega))
    | ((with_reducible apply lm_sP); exact lm_fpL (by omega); exact rfl)
    | ((with_reducible apply lm_sS); exact lm_ocO (by omega); exact rfl)
    | ((with_reducible apply lm_sA); exact rfl; omega)
    | ((with_reducible apply lm_sJ); exact rfl; omega)
    | ((with_reducible apply lm_sB); (first | exact rfl | exact lm_arB (by omega) | exact lm_arM (by omega)); omega)
    | ((with_reducible apply lm_wA); exact rfl; omega)
    | ((with_reducible apply lm_wJ); exact rfl; omega)
    | ((with_reducible apply lm_wB); (first | exact rfl | exact lm_arB (by omega) | exact lm_arM (by omega)); omega)
    | ((with_reducible apply lm_sAl); (first | exact rfl | exact lm_arB (by omega) | exact lm_arM (by omega)); omega)
    | ((with_reducible apply lm_iW); decide))
  refine lm_sCpL rfl rfl (by decide) (by decide) ?_
  exact rfl
theorem lm_u209_17 (hf : h.1 < 128) (hC : lm_C17 m n b 128 h) (ht : n 17 3 = h.2.1) : ∃ m' n', lm_cal (lm_sc xs) (d + 2) 209 [.ref 17] (lm_w m n x) = some (.ok none, lm_w m' n' x) ∧ lm_KP17 m' n' h ∧ lm_fC m n m' n' := by
  obtain ⟨c1, c2, c5, c6, c7, c8⟩ := hC
  refine ⟨lm_u (lm_cp m 19 0 18 0 h.1) 17 5 (Int32.ofNat h.1), lm_cp (lm_u n 17 6 h.2.1) 21 0 20 0 8, ?_, ⟨?_, ?_, fun i hi => ?_, fun i hi => ?_⟩, fun q hq => ?_, fun q hq => ?_, ?_, ?_⟩
  · refine lm_cal_of (Y := lm_m209) rfl rfl (lm_e209_0 ?_)
    unfold lm_q209_0
    rw [lm_K0]
    repeat (first
    | ((with_reducible apply lm_sI); exact rfl)
    | ((with_reducible apply lm_sR); exact rfl)
    | ((with_reducible apply lm_sS); exact rfl; exact rfl)
    | ((with_reducible apply lm_sL); exact rfl)
    | ((with_reducible apply lm_sP); exact rfl; exact rfl)
    | ((with_reducible apply lm_sPL); exact rfl; exact rfl)
    | ((with_reducible apply lm_sAA); exact rfl; first | exact rfl | exact lm_roO (by omega) | exact lm_roM (by omega))
    | ((with_reducible apply lm_sI); exact lm_fpL (by omega))
    | ((with_reducible apply lm_sR); exact lm_fpB (by omega))
    | ((with_reducible apply lm_sP); exact lm_fpL (by omega); exact rfl)
    | ((with_reducible apply lm_sS); exact lm_ocO (by omega); exact rfl)
    | ((with_reducible apply lm_sA); exact rfl; omega)
    | ((with_reducible apply lm_sJ); exact rfl; omega)
    | ((with_reducible apply lm_sB); (first | exact rfl | exact lm_arB (by omega) | exact lm_arM (by omega)); omega)
    | ((with_reducible apply lm_wA); exact rfl; omega)
    | ((with_reducible apply lm_wJ); exact rfl; omega)
    | ((with_reducible apply lm_wB); (first | exact rfl | exact lm_arB (by omega) | exact lm_arM (by omega)); omega)
    | ((with_reducible apply lm_sAl); (first | exact rfl | exact lm_arB (by omega) | exact lm_arM (by omega)); omega)
    | ((with_reducible apply lm_iW); decide))
    simp only [Nat.reduceDiv, Nat.reduceMod, c6]
    refine lm_sCp rfl rfl (Or.inr rfl) (by omega) (by omega) ?_
    repeat (first
    | ((with_reducible apply lm_sI); exact rfl)
    | ((with_reducible apply lm_sR); exact rfl)
    | ((with_reducible apply lm_sS); exact rfl; exact rfl)
    | ((with_reducible apply lm_sL); exact rfl)
    | ((with_reducible apply lm_sP); exact rfl; exact rfl)
    | ((with_reducible apply lm_sPL); exact rfl; exact rfl)
    | ((with_reducible apply lm_sAA); exact rfl; first | exact rfl | exact lm_roO (by omega) | exact lm_roM (by omega))
    | ((with_reducible apply lm_sI); exact lm_fpL (by omega))
    | ((with_reducible apply lm_sR); exact lm_fpB (by omega))
    | ((with_reducible apply lm_sP); exact lm_fpL (by omega); exact rfl)
    | ((with_reducible apply lm_sS); exact lm_ocO (by omega); exact rfl)
    | ((with_reducible apply lm_sA); exact rfl; omega)
    | ((with_reducible apply lm_sJ); exact rfl; omega)
    | ((with_reducible apply lm_sB); (first | exact rfl | exact lm_arB (by omega) | exact lm_arM (by omega)); omega)
    | ((with_reducible apply lm_wA); exact rfl; omega)
    | ((with_reducible apply lm_wJ); exact rfl; omega)
    | ((with_reducible apply lm_wB); (first | exact rfl | exact lm_arB (by omega) | exact lm_arM (by omega)); omega)
    | ((with_reducible apply lm_sAl); (first | exact rfl | exact lm_arB (by omega) | exact lm_arM (by omega)); omega)
    | ((with_reducible apply lm_iW); decide))
    simp only [Nat.reduceDiv, Nat.reduceMod]
    rw [lm_cp_row (by decide), c6, ht]
    refine lm_cV (lm_u280 (d := d)) ?_
    exact rfl
  · exact lm_u_eq
  · rw [lm_cp_row (by decide), lm_u_eq]
  · rw [lm_u_row (by decide), lm_rc, if_pos (by omega)]; exact c8 i hi
  · rw [lm_rc, if_pos (by omega), lm_u_row (by decide)]; exact c7 i hi
  · rw [lm_u_row (by omega), lm_cp_row (by omega)]
  · rw [lm_cp_row (by omega), lm_u_row (by omega)]
  · rw [lm_u_row (by decide), lm_cp_row (by decide)]
  · rw [lm_u_ne (by decide), lm_cp_row (by decide)]
theorem lm_u210_17 (hb : ¬ 6 < b) (h1 : m 17 1 = Int32.ofNat 128) (hf : h.1 < 128) (hK : lm_KP17 m n h) : ∃ m' n', lm_cal (lm_sc xs) (d + 2) 210 [.ref 17] (lm_w m n x) = some (.ok none, lm_w m' n' x) ∧ lm_C17 m' n' b 128 h ∧ n' 17 3 = h.2.1 ∧ lm_fa 17 21 m n m' n' := by
  obtain ⟨k1, k2, k3, k4⟩ := hK
  refine ⟨lm_u (lm_cp m 18 0 19 0 h.1) 17 2 (Int32.ofNat h.1), lm_cp (lm_u n 17 3 h.2.1) 20 0 21 0 8, ?_, ⟨hb, rfl, ?_, ?_, fun i hi => ?_, fun i hi => ?_⟩, ?_, fun q hq => ?_, fun q hq => ?_, fun j hj => ?_, fun j hj => ?_, ?_, ?_, ?_⟩
  · refine lm_cal_of (Y := lm_m210) rfl rfl (lm_e210_0 ?_)
    unfold lm_q210_0
    rw [lm_K0]
    repeat (first
    | ((with_reducible apply lm_sI); exact rfl)
    | ((with_reducible apply lm_sR); exact rfl)
    | ((with_reducible apply lm_sS); exact rfl; exact rfl)
    | ((with_reducible apply lm_sL); exact rfl)
    | ((with_reducible apply lm_sP); exact rfl; exact rfl)
    | ((with_reducible apply lm_sPL); exact rfl; exact rfl)
    | ((with_reducible apply lm_sAA); exact rfl; first | exact rfl | exact lm_roO (by omega) | exact lm_roM (by omega))
    | ((with_reducible apply lm_sI); exact lm_fpL (by omega))
    | ((with_reducible apply lm_sR); exact lm_fpB (by omega))
    | ((with_reducible apply lm_sP); exact lm_fpL (by omega); exact rfl)
    | ((with_reducible apply lm_sS); exact lm_ocO (by omega); exact rfl)
    | ((with_reducible apply lm_sA); exact rfl; omega)
    | ((with_reducible apply lm_sJ); exact rfl; omega)
    | ((with_reducible apply lm_sB); (first | exact rfl | exact lm_arB (by omega) | exact lm_arM (by omega)); omega)
    | ((with_reducible apply lm_wA); exact rfl; omega)
    | ((with_reducible apply lm_wJ); exact rfl; omega)
    | ((with_reducible apply lm_wB); (first | exact rfl | exact lm_arB (by omega) | exact lm_arM (by omega)); omega)
    | ((with_reducible apply lm_sAl); (first | exact rfl | exact lm_arB (by omega) | exact lm_arM (by omega)); omega)
    | ((with_reducible apply lm_iW); decide))
    simp only [Nat.reduceDiv, Nat.reduceMod, k1]
    refine lm_sCp rfl rfl (Or.inr rfl) (by omega) (by omega) ?_
    repeat (first
    | ((with_reducible apply lm_sI); exact rfl)
    | ((with_reducible apply lm_sR); exact rfl)
    | ((with_reducible apply lm_sS); exact rfl; exact rfl)
    | ((with_reducible apply lm_sL); exact rfl)
    | ((with_reducible apply lm_sP); exact rfl; exact rfl)
    | ((with_reducible apply lm_sPL); exact rfl; exact rfl)
    | ((with_reducible apply lm_sAA); exact rfl; first | exact rfl | exact lm_roO (by omega) | exact lm_roM (by omega))
    | ((with_reducible apply lm_sI); exact lm_fpL (by omega))
    | ((with_reducible apply lm_sR); exact lm_fpB (by omega))
    | ((with_reducible apply lm_sP); exact lm_fpL (by omega); exact rfl)
    | ((with_reducible apply lm_sS); exact lm_ocO (by omega); exact rfl)
    | ((with_reducible apply lm_sA); exact rfl; omega)
    | ((with_reducible apply lm_sJ); exact rfl; omega)
    | ((with_reducible apply lm_sB); (first | exact rfl | exact lm_arB (by omega) | exact lm_arM (by omega)); omega)
    | ((with_reducible apply lm_wA); exact rfl; omega)
    | ((with_reducible apply lm_wJ); exact rfl; omega)
    | ((with_reducible apply lm_wB); (first | exact rfl | exact lm_arB (by omega) | exact lm_arM (by omega)); omega)
    | ((with_reducible apply lm_sAl); (first | exact rfl | exact lm_arB (by omega) | exact lm_arM (by omega)); omega)
    | ((with_reducible apply lm_iW); decide))
    simp only [Nat.reduceDiv, Nat.reduceMod]
    rw [lm_cp_row (by decide), k1, k2]
    refine lm_cV (lm_u283 (d := d)) ?_
    exact rfl
  · rw [lm_u_ne (by decide), lm_cp_row (by decide)]; exact h1
  · exact lm_u_eq
  · rw [lm_rc, if_pos (by omega), lm_u_row (by decide)]; exact k4 i hi
  · rw [lm_u_row (by decide), lm_rc, if_pos (by omega)]; exact k3 i hi
  · rw [lm_cp_row (by decide), lm_u_eq]
  · rw [lm_u_row (by omega), lm_cp_row (by omega)]
  · rw [lm_cp_row (by omega), lm_u_row (by omega)]
  · rw [lm_u_ne (fun g => hj g.2), lm_cp_row (by decide)]
  · rw [lm_cp_row (by decide), lm_u_ne (fun g => hj g.2)]
  · rw [lm_u_row (by decide), lm_cp_row (by decide)]
  · rw [lm_u_row (by decide), lm_cp_row (by decide)]
  · rw [lm_cp_row (by decide), lm_u_row (by decide)]
end LMMK
