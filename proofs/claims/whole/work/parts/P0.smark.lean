/-! ===== SLH: mark and recall of the sponge; by kind ===== -/
section LMSK
variable {xs : List Int32} {d k : Nat} {m m' : lm_MI} {n n' : lm_ML} {x : lm_H × Nat × Nat} {h : lm_HV}
def lm_KP5 (m : lm_MI) (n : lm_ML) (h : lm_HV) : Prop := m 5 5 = Int32.ofNat h.1 ∧ n 5 6 = h.2.1 ∧ m 5 1 = Int32.ofNat (lm_rate 12) ∧ m 5 10 = lm_sfx 12 ∧ (∀ i, i < 25 → h.2.2.1 i = lm_fls (fun i => lm_b8 (m 7 i)) h.1 0 (n 10) i)
theorem lm_u278 : lm_cal (lm_sc xs) (d + 1) 278 [.ref 5] (lm_w m n x) = some (.ok none, lm_w m (lm_cp n 10 0 8 0 25) x) := by
  refine lm_cal_of (Y := lm_m278) rfl rfl (lm_e278_0 ?_)
  unfold lm_q278_0
  rw [lm_K0, show Int32.ofInt 25 = Int32.ofNat 25 from rfl]
  repeat (first
    | ((with_reducible apply lm_sI); exact rfl)
    | ((with_reducible apply lm_sR); exact rfl)
    | ((with_reducible apply lm_sS); exact rfl; exact rfl)
    | ((with_reducible apply lm_sL); exact rfl)
    | ((with_reducible apply lm_sP); exact rfl; exact rfl)
    | ((with_reducible apply lm_sPL); exact rfl; exact rfl)
    | ((with_reducible apply lm_sAA); exact rfl; first | exact rfl | exact lm_roO (by omega) | exact lm_roM (by omega))
    | ((with_reducible apply lm_sI); exact lm_fpL (by omega))
    | ((with_reducible apply lm_sR); exact lm_fpB (by omega))
    | ((with_reducible apply lm_sP); exact lm_fpL (by omega); exact rfl)
    | ((with_reducible apply lm_sS); exact lm_ocO (by omega); exact rfl)
    | ((with_reducible apply lm_sA); exact rfl; omega)
    | ((with_reducible apply lm_sJ); exact rfl; omega)
    | ((with_reducible apply lm_sB); (first | exact rfl | exact lm_arB (by omega) | exact lm_arM (by omega)); omega)
    | ((with_reducible apply lm_wA); exact rfl; omega)
    | ((with_reducible apply lm_wJ); exact rfl; omega)
    | ((with_reducible apply lm_wB); (first | exact rfl | exact lm_arB (by omega) | exact lm_arM (by omega)); omega)
    | ((with_reducible apply lm_sAl); (first | exact rfl | exact lm_arB (by omega) | exact lm_arM (by omega)); omega)
    | ((with_reducible apply lm_iW); decide))
  refine lm_sCpL rfl rfl (by decide) (by decide) ?_
  exact rfl
theorem lm_u281 : lm_cal (lm_sc xs) (d + 1) 281 [.ref 5] (lm_w m n x) = some (.ok none, lm_w m (lm_cp n 8 0 10 0 25) x) := by
  refine lm_cal_of (Y := lm_m281) rfl rfl (lm_e281_0 ?_)
  unfold lm_q281_0
  rw [lm_K0, show Int32.ofInt 25 = Int32.ofNat 25 from rfl]
  repeat (first
    | ((with_reducible apply lm_sI); exact rfl)
    | ((with_reducible apply lm_sR); exact rfl)
    | ((with_reducible apply lm_sS); exact rfl; exact rfl)
    | ((with_reducible apply lm_sL); exact rfl)
    | ((with_reducible apply lm_sP); exact rfl; exact rfl)
    | ((with_reducible apply lm_sPL); exact rfl; exact rfl)
    | ((with_reducible apply lm_sAA); exact rfl; first | exact rfl | exact lm_roO (by omega) | exact lm_roM (by omega))
    | ((with_reducible apply lm_sI); exact lm_fpL (by omega))
    | ((with_reducible apply lm_sR); exact lm_fpB (by omega))
    | ((with_reducible apply lm_sP); exact lm_fpL (by omega); exact rfl)
    | ((with_reducible apply lm_sS); exact lm_ocO (by omega); exact rfl)
    | ((with_reducible apply lm_sA); exact rfl; omega)
    | ((with_reducible apply lm_sJ); exact rfl; omega)
    | ((with_reducible apply lm_sB); (first | exact rfl | exact lm_arB (by omega) | exact lm_arM (by omega)); omega)
    | ((with_reducible apply lm_wA); exact rfl; omega)
    | ((with_reducible apply lm_wJ); exact rfl; omega)
    | ((with_reducible apply lm_wB); (first | exact rfl | exact lm_arB (by omega) | exact lm_arM (by omega)); omega)
    | ((with_reducible apply lm_sAl); (first | exact rfl | exact lm_arB (by omega) | exact lm_arM (by omega)); omega)
    | ((with_reducible apply lm_iW); decide))
  refine lm_sCpL rfl rfl (by decide) (by decide) ?_
  exact rfl
/-- outside an object -/
def lm_fM (o : Nat) (m : lm_MI) (n : lm_ML) (m' : lm_MI) (n' : lm_ML) : Prop := (∀ q, q < o ∨ o + 5 < q → m' q = m q) ∧ (∀ q, q < o ∨ o + 5 < q → n' q = n q) ∧ ∀ j, j < 5 → m' o j = m o j
theorem lm_fls_x {f g : Nat → Int32} {w : Nat → Int64} {w' : Nat → Int64} : ∀ c a, (∀ i, i < a + c → f i = g i) → (∀ i, i < 25 → w i = w' i) → ∀ i, i < 25 → lm_fls f c a w i = lm_fls g c a w' i := by
  intro c
  induction c generalizing w w' with
  | zero => intro a _ hw i hi; exact hw i hi
  | succ c ih =>
    intro a e hw i hi
    show lm_fls f c (a + 1) _ i = lm_fls g c (a + 1) _ i
    refine ih (a + 1) (fun i hi => e i (by omega)) (fun i hi => ?_) i hi
    rw [e a (by omega)]
    unfold lm_flp
    by_cases c0 : i = a / 8
    · subst c0; simp only [hw _ hi]
    · simp only [hw _ hi]
theorem lm_u209_5 (hf : h.1 < 136) (hC : lm_C5 m n 12 (lm_rate 12) h) (ht : n 5 3 = h.2.1) (hx : m 5 10 = lm_sfx 12) : ∃ m' n', lm_cal (lm_sc xs) (d + 2) 209 [.ref 5] (lm_w m n x) = some (.ok none, lm_w m' n' x) ∧ lm_KP5 m' n' h ∧ lm_fM 5 m n m' n' := by
  obtain ⟨_, c1, c2, c3, c5, c6, c7⟩ := hC
  refine ⟨lm_u (lm_cp m 7 0 6 0 h.1) 5 5 (Int32.ofNat h.1), lm_cp (lm_u n 5 6 h.2.1) 10 0 8 0 25, ?_, ⟨?_, ?_, ?_, ?_, fun i hi => ?_⟩, fun q hq => ?_, fun q hq => ?_, fun j hj => ?_⟩
  · refine lm_cal_of (Y := lm_m209) rfl rfl (lm_e209_0 ?_)
    unfold lm_q209_0
    rw [lm_K0]
    repeat (first
    | ((with_reducible apply lm_sI); exact rfl)
    | ((with_reducible apply lm_sR); exact rfl)
    | ((with_reducible apply lm_sS); exact rfl; exact rfl)
    | ((with_reducible apply lm_sL); exact rfl)
    | ((with_reducible apply lm_sP); exact rfl; exact rfl)
    | ((with_reducible apply lm_sPL); exact rfl; exact rfl)
    | ((with_reducible apply lm_sAA); exact rfl; first | exact rfl | exact lm_roO (by omega) | exact lm_roM (by omega))
    | ((with_reducible apply lm_sI); exact lm_fpL (by omega))
    | ((with_reducible apply lm_sR); exact lm_fpB (by omega))
    | ((with_reducible apply lm_sP); exact lm_fpL (by omega); exact rfl)
    | ((with_reducible apply lm_sS); exact lm_ocO (by omega); exact rfl)
    | ((with_reducible apply lm_sA); exact rfl; omega)
    | ((with_reducible apply lm_sJ); exact rfl; omega)
    | ((with_reducible apply lm_sB); (first | exact rfl | exact lm_arB (by omega) | exact lm_arM (by omega)); omega)
    | ((with_reducible apply lm_wA); exact rfl; omega)
    | ((with_reducible apply lm_wJ); exact rfl; omega)
    | ((with_reducible apply lm_wB); (first | exact rfl | exact lm_arB (by omega) | exact lm_arM (by omega)); omega)
    | ((with_reducible apply lm_sAl); (first | exact rfl | exact lm_arB (by omega) | exact lm_arM (by omega)); omega)
    | ((with_reducible apply lm_iW); decide))
    simp only [Nat.reduceDiv, Nat.reduceMod, c6]
    refine lm_sCp rfl rfl (Or.inr rfl) (by omega) (by omega) ?_
    repeat (first
    | ((with_reducible apply lm_sI); exact rfl)
    | ((with_reducible apply lm_sR); exact rfl)
    | ((with_reducible apply lm_sS); exact rfl; exact rfl)
    | ((with_reducible apply lm_sL); exact rfl)
    | ((with_reducible apply lm_sP); exact rfl; exact rfl)
    | ((with_reducible apply lm_sPL); exact rfl; exact rfl)
    | ((with_reducible apply lm_sAA); exact rfl; first | exact rfl | exact lm_roO (by omega) | exact lm_roM (by omega))
    | ((with_reducible apply lm_sI); exact lm_fpL (by omega))
    | ((with_reducible apply lm_sR); exact lm_fpB (by omega))
    | ((with_reducible apply lm_sP); exact lm_fpL (by omega); exact rfl)
    | ((with_reducible apply lm_sS); exact lm_ocO (by omega); exact rfl)
    | ((with_reducible apply lm_sA); exact rfl; omega)
    | ((with_reducible apply lm_sJ); exact rfl; omega)
    | ((with_reducible apply lm_sB); (first | exact rfl | exact lm_arB (by omega) | exact lm_arM (by omega)); omega)
    | ((with_reducible apply lm_wA); exact rfl; omega)
    | ((with_reducible apply lm_wJ); exact rfl; omega)
    | ((with_reducible apply lm_wB); (first | exact rfl | exact lm_arB (by omega) | exact lm_arM (by omega)); omega)
    | ((with_reducible apply lm_sAl); (first | exact rfl | exact lm_arB (by omega) | exact lm_arM (by omega)); omega)
    | ((with_reducible apply lm_iW); decide))
    simp only [Nat.reduceDiv, Nat.reduceMod]
    rw [lm_cp_row (by decide), c6, ht]
    refine lm_cV (lm_u278 (d := d)) ?_
    exact rfl
  · exact lm_u_eq
  · rw [lm_cp_row (by decide), lm_u_eq]
  · rw [lm_u_ne (by decide), lm_cp_row (by decide)]; exact c5
  · rw [lm_u_ne (by decide), lm_cp_row (by decide)]; exact hx
  · rw [c7 i hi]
    refine lm_fls_x h.1 0 (fun j hj => ?_) (fun j hj => ?_) i hi
    · rw [lm_u_row (by decide), lm_rc, if_pos (by omega)]
      rfl
    · rw [lm_rc, if_pos (by omega), lm_u_row (by decide)]
      rfl
  · rw [lm_u_row (by omega), lm_cp_row (by omega)]
  · rw [lm_cp_row (by omega), lm_u_row (by omega)]
  · rw [lm_u_ne (by omega), lm_cp_row (by decide)]
theorem lm_u210_5 (hf : h.1 < 136) (hK : lm_KP5 m n h) : ∃ m' n', lm_cal (lm_sc xs) (d + 2) 210 [.ref 5] (lm_w m n x) = some (.ok none, lm_w m' n' x) ∧ (lm_C5 m' n' 12 (lm_rate 12) h ∧ n' 5 3 = h.2.1 ∧ m' 5 10 = lm_sfx 12) ∧ lm_fa 5 10 m n m' n' := by
  obtain ⟨k1, k2, k5, k6, k3⟩ := hK
  refine ⟨lm_u (lm_cp m 6 0 7 0 h.1) 5 2 (Int32.ofNat h.1), lm_cp (lm_u n 5 3 h.2.1) 8 0 10 0 25, ?_, ⟨⟨by decide, by decide, by decide, by decide, ?_, ?_, fun i hi => ?_⟩, ?_, ?_⟩, fun q hq => ?_, fun q hq => ?_, fun j hj => ?_, fun j hj => ?_, ?_, ?_, ?_⟩
  · refine lm_cal_of (Y := lm_m210) rfl rfl (lm_e210_0 ?_)
    unfold lm_q210_0
    rw [lm_K0]
    repeat (first
    | ((with_reducible apply lm_sI); exact rfl)
    | ((with_reducible apply lm_sR); exact rfl)
    | ((with_reducible apply lm_sS); exact rfl; exact rfl)
    | ((with_reducible apply lm_sL); exact rfl)
    | ((with_reducible apply lm_sP); exact rfl; exact rfl)
    | ((with_reducible apply lm_sPL); exact rfl; exact rfl)
    | ((with_reducible apply lm_sAA); exact rfl; first | exact rfl | exact lm_roO (by omega) | exact lm_roM (by omega))
    | ((with_reducible apply lm_sI); exact lm_fpL (by omega))
    | ((with_reducible apply lm_sR); exact lm_fpB (by omega))
    | ((with_reducible apply lm_sP); exact lm_fpL (by omega); exact rfl)
    | ((with_reducible apply lm_sS); exact lm_ocO (by omega); exact rfl)
    | ((with_reducible apply lm_sA); exact rfl; omega)
    | ((with_reducible apply lm_sJ); exact rfl; omega)
    | ((with_reducible apply lm_sB); (first | exact rfl | exact lm_arB (by omega) | exact lm_arM (by omega)); omega)
    | ((with_reducible apply lm_wA); exact rfl; omega)
    | ((with_reducible apply lm_wJ); exact rfl; omega)
    | ((with_reducible apply lm_wB); (first | exact rfl | exact lm_arB (by omega) | exact lm_arM (by omega)); omega)
    | ((with_reducible apply lm_sAl); (first | exact rfl | exact lm_arB (by omega) | exact lm_arM (by omega)); omega)
    | ((with_reducible apply lm_iW); decide))
    simp only [Nat.reduceDiv, Nat.reduceMod, k1]
    refine lm_sCp rfl rfl (Or.inr rfl) (by omega) (by omega) ?_
    repeat (first
    | ((with_reducible apply lm_sI); exact rfl)
    | ((with_reducible apply lm_sR); exact rfl)
    | ((with_reducible apply lm_sS); exact rfl; exact rfl)
    | ((with_reducible apply lm_sL); exact rfl)
    | ((with_reducible apply lm_sP); exact rfl; exact rfl)
    | ((with_reducible apply lm_sPL); exact rfl; exact rfl)
    | ((with_reducible apply lm_sAA); exact rfl; first | exact rfl | exact lm_roO (by omega) | exact lm_roM (by omega))
    | ((with_reducible apply lm_sI); exact lm_fpL (by omega))
    | ((with_reducible apply lm_sR); exact lm_fpB (by omega))
    | ((with_reducible apply lm_sP); exact lm_fpL (by omega); exact rfl)
    | ((with_reducible apply lm_sS); exact lm_ocO (by omega); exact rfl)
    | ((with_reducible apply lm_sA); exact rfl; omega)
    | ((with_reducible apply lm_sJ); exact rfl; omega)
    | ((with_reducible apply lm_sB); (first | exact rfl | exact lm_arB (by omega) | exact lm_arM (by omega)); omega)
    | ((with_reducible apply lm_wA); exact rfl; omega)
    | ((with_reducible apply lm_wJ); exact rfl; omega)
    | ((with_reducible apply lm_wB); (first | exact rfl | exact lm_arB (by omega) | exact lm_arM (by omega)); omega)
    | ((with_reducible apply lm_sAl); (first | exact rfl | exact lm_arB (by omega) | exact lm_arM (by omega)); omega)
    | ((with_reducible apply lm_iW); decide))
    simp only [Nat.reduceDiv, Nat.reduceMod]
    rw [lm_cp_row (by decide), k1, k2]
    refine lm_cV (lm_u281 (d := d)) ?_
    exact rfl
  · rw [lm_u_ne (by decide), lm_cp_row (by decide)]; exact k5
  · exact lm_u_eq
  · rw [k3 i hi]
    refine lm_fls_x h.1 0 (fun j hj => ?_) (fun j hj => ?_) i hi
    · rw [lm_u_row (by decide), lm_rc, if_pos (by omega)]
      rfl
    · rw [lm_rc, if_pos (by omega), lm_u_row (by decide)]
      rfl
  · rw [lm_cp_row (by decide), lm_u_eq]
  · rw [lm_u_ne (by decide), lm_cp_row (by decide)]; exact k6
  · rw [lm_u_row (by omega), lm_cp_row (by omega)]
  · rw [lm_cp_row (by omega), lm_u_row (by omega)]
  · rw [lm_u_ne (fun g => hj g.2), lm_cp_row (by decide)]
  · rw [lm_cp_row (by decide), lm_u_ne (fun g => hj g.2)]
  · rw [lm_u_row (by decide), lm_cp_row (by decide)]
  · rw [lm_u_row (by decide), lm_cp_row (by decide)]
  · rw [lm_cp_row (by decide), lm_u_row (by decide)]
/-- what is marked, by kind: 1, 3, 12 -/
def lm_KPk (k : Nat) (m : lm_MI) (n : lm_ML) (h : lm_HV) : Prop := if k = 1 then lm_KP11 m n h ∧ m 11 1 = Int32.ofNat 64 else if k = 3 then lm_KP17 m n h ∧ m 17 1 = Int32.ofNat 128 else lm_KP5 m n h
def lm_k3 (k : Nat) : Prop := k = 1 ∨ k = 3 ∨ k = 12
theorem lm_mark (hk : lm_k3 k) (hf : h.1 < lm_rate k) (hC : lm_CS m n k h) : ∃ m' n', lm_cal (lm_sc xs) (d + 2) 209 [.ref (lm_obj k)] (lm_w m n x) = some (.ok none, lm_w m' n' x) ∧ lm_KPk k m' n' h ∧ lm_fM (lm_obj k) m n m' n' := by
  rcases hk with e | e | e
  · subst e
    obtain ⟨c, ht⟩ := (show lm_C11 m n 1 64 h ∧ n 11 3 = h.2.1 from hC)
    obtain ⟨c1, c2, c5, c6, c7, c8⟩ := c
    refine ⟨lm_cp (lm_u (lm_cp m 13 0 12 0 h.1) 11 5 (Int32.ofNat h.1)) 15 0 14 0 8, lm_u n 11 6 h.2.1, ?_, ⟨⟨?_, ?_, fun i hi => ?_, fun i hi => ?_⟩, ?_⟩, fun q hq => ?_, fun q hq => ?_, fun j hj => ?_⟩
    · have hf' : h.1 < 64 := hf
      refine lm_cal_of (Y := lm_m209) rfl rfl (lm_e209_0 ?_)
      unfold lm_q209_0
      rw [lm_K0, show lm_obj 1 = 11 from rfl]
      repeat (first
    | ((with_reducible apply lm_sI); exact rfl)
    | ((with_reducible apply lm_sR); exact rfl)
    | ((with_reducible apply lm_sS); exact rfl; exact rfl)
    | ((with_reducible apply lm_sL); exact rfl)
    | ((with_reducible apply lm_sP); exact rfl; exact rfl)
    | ((with_reducible apply lm_sPL); exact rfl; exact rfl)
    | ((with_reducible apply lm_sAA); exact rfl; first | exact rfl | exact lm_roO (by omega) | exact lm_roM (by omega))
    | ((with_reducible apply lm_sI); exact lm_fpL (by omega))
    | ((with_reducible apply lm_sR); exact lm_fpB (by omega))
    | ((with_reducible apply lm_sP); exact lm_fpL (by omega); exact rfl)
    | ((with_reducible apply lm_sS); exact lm_ocO (by omega); exact rfl)
    | ((with_reducible apply lm_sA); exact rfl; omega)
    | ((with_reducible apply lm_sJ); exact rfl; omega)
    | ((with_reducible apply lm_sB); (first | exact rfl | exact lm_arB (by omega) | exact lm_arM (by omega)); omega)
    | ((with_reducible apply lm_wA); exact rfl; omega)
    | ((with_reducible apply lm_wJ); exact rfl; omega)
    | ((with_reducible apply lm_wB); (first | exact rfl | exact lm_arB (by omega) | exact lm_arM (by omega)); omega)
    | ((with_reducible apply lm_sAl); (first | exact rfl | exact lm_arB (by omega) | exact lm_arM (by omega)); omega)
    | ((with_reducible apply lm_iW); decide))
      simp only [Nat.reduceDiv, Nat.reduceMod, c6]
      refine lm_sCp rfl rfl (Or.inr rfl) (by omega) (by omega) ?_
      repeat (first
    | ((with_reducible apply lm_sI); exact rfl)
    | ((with_reducible apply lm_sR); exact rfl)
    | ((with_reducible apply lm_sS); exact rfl; exact rfl)
    | ((with_reducible apply lm_sL); exact rfl)
    | ((with_reducible apply lm_sP); exact rfl; exact rfl)
    | ((with_reducible apply lm_sPL); exact rfl; exact rfl)
    | ((with_reducible apply lm_sAA); exact rfl; first | exact rfl | exact lm_roO (by omega) | exact lm_roM (by omega))
    | ((with_reducible apply lm_sI); exact lm_fpL (by omega))
    | ((with_reducible apply lm_sR); exact lm_fpB (by omega))
    | ((with_reducible apply lm_sP); exact lm_fpL (by omega); exact rfl)
    | ((with_reducible apply lm_sS); exact lm_ocO (by omega); exact rfl)
    | ((with_reducible apply lm_sA); exact rfl; omega)
    | ((with_reducible apply lm_sJ); exact rfl; omega)
    | ((with_reducible apply lm_sB); (first | exact rfl | exact lm_arB (by omega) | exact lm_arM (by omega)); omega)
    | ((with_reducible apply lm_wA); exact rfl; omega)
    | ((with_reducible apply lm_wJ); exact rfl; omega)
    | ((with_reducible apply lm_wB); (first | exact rfl | exact lm_arB (by omega) | exact lm_arM (by omega)); omega)
    | ((with_reducible apply lm_sAl); (first | exact rfl | exact lm_arB (by omega) | exact lm_arM (by omega)); omega)
    | ((with_reducible apply lm_iW); decide))
      simp only [Nat.reduceDiv, Nat.reduceMod]
      rw [lm_cp_row (by decide), c6, ht]
      refine lm_cV (lm_u279 (d := d)) ?_
      exact rfl
    · rw [lm_cp_row (by decide), lm_u_eq]
    · exact lm_u_eq
    · rw [lm_cp_row (by decide), lm_u_row (by decide), lm_rc, if_pos (by omega)]; exact c8 i hi
    · rw [lm_rc, if_pos (by omega), lm_u_row (by decide), lm_cp_row (by decide)]; exact c7 i hi
    · rw [lm_cp_row (by decide), lm_u_ne (by decide), lm_cp_row (by decide)]; exact c5
    · have hq' : q < 11 ∨ 11 + 5 < q := hq
      rw [lm_cp_row (by omega), lm_u_row (by omega), lm_cp_row (by omega)]
    · have hq' : q < 11 ∨ 11 + 5 < q := hq
      rw [lm_u_row (by omega)]
    · show lm_cp (lm_u (lm_cp m 13 0 12 0 h.1) 11 5 (Int32.ofNat h.1)) 15 0 14 0 8 11 j = m 11 j
      rw [lm_cp_row (by decide), lm_u_ne (by omega), lm_cp_row (by decide)]
  · subst e
    obtain ⟨c, ht⟩ := (show lm_C17 m n 3 128 h ∧ n 17 3 = h.2.1 from hC)
    obtain ⟨c1, c2, c5, c6, c7, c8⟩ := c
    refine ⟨lm_u (lm_cp m 19 0 18 0 h.1) 17 5 (Int32.ofNat h.1), lm_cp (lm_u n 17 6 h.2.1) 21 0 20 0 8, ?_, ⟨⟨?_, ?_, fun i hi => ?_, fun i hi => ?_⟩, ?_⟩, fun q hq => ?_, fun q hq => ?_, fun j hj => ?_⟩
    · have hf' : h.1 < 128 := hf
      refine lm_cal_of (Y := lm_m209) rfl rfl (lm_e209_0 ?_)
      unfold lm_q209_0
      rw [lm_K0, show lm_obj 3 = 17 from rfl]
      repeat (first
    | ((with_reducible apply lm_sI); exact rfl)
    | ((with_reducible apply lm_sR); exact rfl)
    | ((with_reducible apply lm_sS); exact rfl; exact rfl)
    | ((with_reducible apply lm_sL); exact rfl)
    | ((with_reducible apply lm_sP); exact rfl; exact rfl)
    | ((with_reducible apply lm_sPL); exact rfl; exact rfl)
    | ((with_reducible apply lm_sAA); exact rfl; first | exact rfl | exact lm_roO (by omega) | exact lm_roM (by omega))
    | ((with_reducible apply lm_sI); exact lm_fpL (by omega))
    | ((with_reducible apply lm_sR); exact lm_fpB (by omega))
    | ((with_reducible apply lm_sP); exact lm_fpL (by omega); exact rfl)
    | ((with_reducible apply lm_sS); exact lm_ocO (by omega); exact rfl)
    | ((with_reducible apply lm_sA); exact rfl; omega)
    | ((with_reducible apply lm_sJ); exact rfl; omega)
    | ((with_reducible apply lm_sB); (first | exact rfl | exact lm_arB (by omega) | exact lm_arM (by omega)); omega)
    | ((with_reducible apply lm_wA); exact rfl; omega)
    | ((with_reducible apply lm_wJ); exact rfl; omega)
    | ((with_reducible apply lm_wB); (first | exact rfl | exact lm_arB (by omega) | exact lm_arM (by omega)); omega)
    | ((with_reducible apply lm_sAl); (first | exact rfl | exact lm_arB (by omega) | exact lm_arM (by omega)); omega)
    | ((with_reducible apply lm_iW); decide))
      simp only [Nat.reduceDiv, Nat.reduceMod, c6]
      refine lm_sCp rfl rfl (Or.inr rfl) (by omega) (by omega) ?_
      repeat (first
    | ((with_reducible apply lm_sI); exact rfl)
    | ((with_reducible apply lm_sR); exact rfl)
    | ((with_reducible apply lm_sS); exact rfl; exact rfl)
    | ((with_reducible apply lm_sL); exact rfl)
    | ((with_reducible apply lm_sP); exact rfl; exact rfl)
    | ((with_reducible apply lm_sPL); exact rfl; exact rfl)
    | ((with_reducible apply lm_sAA); exact rfl; first | exact rfl | exact lm_roO (by omega) | exact lm_roM (by omega))
    | ((with_reducible apply lm_sI); exact lm_fpL (by omega))
    | ((with_reducible apply lm_sR); exact lm_fpB (by omega))
    | ((with_reducible apply lm_sP); exact lm_fpL (by omega); exact rfl)
    | ((with_reducible apply lm_sS); exact lm_ocO (by omega); exact rfl)
    | ((with_reducible apply lm_sA); exact rfl; omega)
    | ((with_reducible apply lm_sJ); exact rfl; omega)
    | ((with_reducible apply lm_sB); (first | exact rfl | exact lm_arB (by omega) | exact lm_arM (by omega)); omega)
    | ((with_reducible apply lm_wA); exact rfl; omega)
    | ((with_reducible apply lm_wJ); exact rfl; omega)
    | ((with_reducible apply lm_wB); (first | exact rfl | exact lm_arB (by omega) | exact lm_arM (by omega)); omega)
    | ((with_reducible apply lm_sAl); (first | exact rfl | exact lm_arB (by omega) | exact lm_arM (by omega)); omega)
    | ((with_reducible apply lm_iW); decide))
      simp only [Nat.reduceDiv, Nat.reduceMod]
      rw [lm_cp_row (by decide), c6, ht]
      refine lm_cV (lm_u280 (d := d)) ?_
      exact rfl
    · exact lm_u_eq
    · rw [lm_cp_row (by decide), lm_u_eq]
    · rw [lm_u_row (by decide), lm_rc, if_pos (by omega)]; exact c8 i hi
    · rw [lm_rc, if_pos (by omega), lm_u_row (by decide)]; exact c7 i hi
    · rw [lm_u_ne (by decide), lm_cp_row (by decide)]; exact c5
    · have hq' : q < 17 ∨ 17 + 5 < q := hq
      rw [lm_u_row (by omega), lm_cp_row (by omega)]
    · have hq' : q < 17 ∨ 17 + 5 < q := hq
      rw [lm_cp_row (by omega), lm_u_row (by omega)]
    · show lm_u (lm_cp m 19 0 18 0 h.1) 17 5 (Int32.ofNat h.1) 17 j = m 17 j
      rw [lm_u_ne (by omega), lm_cp_row (by decide)]
  · subst e
    obtain ⟨c, ht, hx⟩ := (show lm_C5 m n 12 (lm_rate 12) h ∧ n 5 3 = h.2.1 ∧ m 5 10 = lm_sfx 12 from hC)
    exact lm_u209_5 (d := d) hf c ht hx
theorem lm_rcl (hk : lm_k3 k) (hf : h.1 < lm_rate k) (hK : lm_KPk k m n h) : ∃ m' n', lm_cal (lm_sc xs) (d + 2) 210 [.ref (lm_obj k)] (lm_w m n x) = some (.ok none, lm_w m' n' x) ∧ lm_CS m' n' k h ∧ lm_fa (lm_obj k) (lm_kso k) m n m' n' := by
  rcases hk with e | e | e
  · subst e
    obtain ⟨c, h1⟩ := (show lm_KP11 m n h ∧ m 11 1 = Int32.ofNat 64 from hK)
    obtain ⟨m', n', a, b, c', f⟩ := lm_u210_11 (xs := xs) (d := d) (x := x) (b := 1) (by decide) h1 hf c
    exact ⟨m', n', a, ⟨b, c'⟩, f⟩
  · subst e
    obtain ⟨c, h1⟩ := (show lm_KP17 m n h ∧ m 17 1 = Int32.ofNat 128 from hK)
    obtain ⟨m', n', a, b, c', f⟩ := lm_u210_17 (xs := xs) (d := d) (x := x) (b := 3) (by decide) h1 hf c
    exact ⟨m', n', a, ⟨b, c'⟩, f⟩
  · subst e
    exact lm_u210_5 (d := d) hf hK
/-- kept by the hash itself -/
theorem lm_KPk.fa (hk : lm_k3 k) (K : lm_KPk k m n h) (f : lm_fa (lm_obj k) (lm_kso k) m n m' n') : lm_KPk k m' n' h := by
  rcases hk with e | e | e
  · subst e
    obtain ⟨c, h1⟩ := (show lm_KP11 m n h ∧ m 11 1 = Int32.ofNat 64 from K)
    exact ⟨c.fa f, (f.2.2.1 1 (by decide)).trans h1⟩
  · subst e
    obtain ⟨c, h1⟩ := (show lm_KP17 m n h ∧ m 17 1 = Int32.ofNat 128 from K)
    exact ⟨c.fa f, (f.2.2.1 1 (by decide)).trans h1⟩
  · subst e
    obtain ⟨k1, k2, k5, k6, k3⟩ := (show lm_KP5 m n h from K)
    obtain ⟨a1, a2, a3, a4, a5, a6, a7⟩ := (show lm_fa 5 10 m n m' n' from f)
    exact ⟨(a3 5 (by decide)).trans k1, (a4 6 (by decide)).trans k2, (a3 1 (by decide)).trans k5, (a3 10 (by decide)).trans k6, fun i hi => by rw [k3 i hi, show m' 7 = m 7 from a5, a7]⟩
/-- kept where its object is left alone -/
theorem lm_KPk.ob (hk : lm_k3 k) (K : lm_KPk k m n h) (e1 : ∀ q, lm_obj k ≤ q → q ≤ lm_obj k + 5 → m' q = m q) (e2 : ∀ q, lm_obj k ≤ q → q ≤ lm_obj k + 5 → n' q = n q) : lm_KPk k m' n' h := by
  rcases hk with e | e | e
  · subst e
    obtain ⟨⟨k1, k2, k3, k4⟩, h1⟩ := (show lm_KP11 m n h ∧ m 11 1 = Int32.ofNat 64 from K)
    refine ⟨⟨?_, ?_, fun i hi => ?_, fun i hi => ?_⟩, ?_⟩
    · rw [e1 11 (by decide) (by decide)]; exact k1
    · rw [e2 11 (by decide) (by decide)]; exact k2
    · rw [e1 13 (by decide) (by decide)]; exact k3 i hi
    · rw [e1 15 (by decide) (by decide)]; exact k4 i hi
    · rw [e1 11 (by decide) (by decide)]; exact h1
  · subst e
    obtain ⟨⟨k1, k2, k3, k4⟩, h1⟩ := (show lm_KP17 m n h ∧ m 17 1 = Int32.ofNat 128 from K)
    refine ⟨⟨?_, ?_, fun i hi => ?_, fun i hi => ?_⟩, ?_⟩
    · rw [e1 17 (by decide) (by decide)]; exact k1
    · rw [e2 17 (by decide) (by decide)]; exact k2
    · rw [e1 19 (by decide) (by decide)]; exact k3 i hi
    · rw [e2 21 (by decide) (by decide)]; exact k4 i hi
    · rw [e1 17 (by decide) (by decide)]; exact h1
  · subst e
    obtain ⟨k1, k2, k5, k6, k3⟩ := (show lm_KP5 m n h from K)
    refine ⟨?_, ?_, ?_, ?_, fun i hi => ?_⟩
    · rw [e1 5 (by decide) (by decide)]; exact k1
    · rw [e2 5 (by decide) (by decide)]; exact k2
    · rw [e1 5 (by decide) (by decide)]; exact k5
    · rw [e1 5 (by decide) (by decide)]; exact k6
    · rw [k3 i hi, e1 7 (by decide) (by decide), e2 10 (by decide) (by decide)]
end LMSK
