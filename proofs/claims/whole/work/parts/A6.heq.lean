/-! ===== what a hash's value does not depend on ===== -/
def lm_he (k : Nat) (h h' : lm_HV) : Prop := h.1 = h'.1 ∧ h.2.1 = h'.2.1 ∧ (∀ i, i < (if 6 < k then 25 else 8) → h.2.2.1 i = h'.2.2.1 i) ∧ (¬ 6 < k → ∀ i, i < h.1 → lm_b8 (h.2.2.2 i) = lm_b8 (h'.2.2.2 i))
section LMHE
variable {T : lm_TB} {k r : Nat} {h h' : lm_HV}
theorem lm_he.rf : lm_he k h h := ⟨rfl, rfl, fun _ _ => rfl, fun _ _ _ => rfl⟩
theorem lm_he_hp {v : Int32} (hr : lm_kr k r) (hf : h.1 < r) (e : lm_he k h h') : lm_he k (lm_hp T k r v h) (lm_hp T k r v h') := by
  obtain ⟨e1, e2, e3, e4⟩ := e
  by_cases ck : 6 < k
  · rw [if_pos ck] at e3
    have eS : ∀ i, i < 25 → lm_hS k v h i = lm_hS k v h' i := by
      intro i hi
      unfold lm_hS
      rw [if_pos ck, if_pos ck, e1]
      exact lm_flp_lo e3 i hi
    unfold lm_hp
    rw [← e1]
    by_cases c : h.1 + 1 = r
    · rw [if_pos c, if_pos c]
      refine ⟨rfl, by show _ + _ = _ + _; rw [e2], ?_, fun g => absurd ck g⟩
      rw [if_pos ck]
      show ∀ i, i < 25 → lm_cpr T k r _ _ i = lm_cpr T k r _ _ i
      unfold lm_cpr
      rw [if_pos ck, if_pos ck]
      exact lm_kF_lo (fun _ _ => rfl) (fun _ _ => rfl) 24 0 _ _ (by decide) eS
    · rw [if_neg c, if_neg c]
      refine ⟨rfl, by show _ + _ = _ + _; rw [e2], ?_, fun g => absurd ck g⟩
      rw [if_pos ck]
      exact eS
  · rw [if_neg ck] at e3
    have e4 := e4 ck
    have eS : ∀ i, i < 8 → lm_hS k v h i = lm_hS k v h' i := by
      intro i hi
      unfold lm_hS
      rw [if_neg ck, if_neg ck]
      exact e3 i hi
    have eB : ∀ i, i < h.1 + 1 → lm_b8 (lm_hB k v h i) = lm_b8 (lm_hB k v h' i) := by
      intro i hi
      unfold lm_hB
      rw [if_neg ck, if_neg ck, ← e1]
      by_cases ci : i = h.1
      · rw [if_pos ci, if_pos ci]
      · rw [if_neg ci, if_neg ci]
        exact e4 i (by omega)
    unfold lm_hp
    rw [← e1]
    by_cases c : h.1 + 1 = r
    · rw [if_pos c, if_pos c]
      refine ⟨rfl, by show _ + _ = _ + _; rw [e2], ?_, fun _ i hi => absurd hi (by show ¬ i < 0; omega)⟩
      rw [if_neg ck]
      exact lm_cpr_lo ck (hr.2.2 (by omega)) eS (fun i hi => eB i (by omega))
    · rw [if_neg c, if_neg c]
      refine ⟨rfl, by show _ + _ = _ + _; rw [e2], ?_, fun _ => eB⟩
      rw [if_neg ck]
      exact eS
theorem lm_he_hps {g : Nat → Int32} (hr : lm_kr k r) : ∀ c a (h h' : lm_HV), h.1 < r → lm_he k h h' → lm_he k (lm_hps T k r g c a h) (lm_hps T k r g c a h') := by
  intro c
  induction c with
  | zero => intro a h h' _ e; exact e
  | succ c ih =>
    intro a h h' hf e
    exact ih (a + 1) _ _ (lm_hp_lt hf) (lm_he_hp hr hf e)
theorem lm_he_hf (hr : lm_kr k r) (hf : h.1 < r) (e : lm_he k h h') : ∀ i, i < (if 6 < k then 25 else 8) → (lm_hf T k r h).2.2.1 i = (lm_hf T k r h').2.2.1 i := by
  by_cases ck : 6 < k
  · obtain ⟨e1, e2, e3, e4⟩ := e
    rw [if_pos ck] at e3 ⊢
    unfold lm_hf
    rw [if_pos ck, if_pos ck, e1]
    exact lm_kF_lo (fun _ _ => rfl) (fun _ _ => rfl) 24 0 _ _ (by decide) (lm_flp_lo (lm_flp_lo e3))
  · have hr6 := hr.2.2 (by omega)
    rw [lm_hf_eq ck hr6 hf, lm_hf_eq ck hr6 (by rw [← e.1]; exact hf), ← e.1, ← e.2.1]
    exact (lm_he_hps hr _ 0 h h' hf e).2.2.1
theorem lm_he_ou (hr : lm_kr k r) (hrp : 64 ≤ r) {S S' : Nat → Int64} (e : ∀ i, i < (if 6 < k then 25 else 8) → S i = S' i) {i : Nat} (hi : k ≤ 6 → i < 64 ∧ (r = 64 → i < 32)) : lm_ou T k r S i = lm_ou T k r S' i := by
  unfold lm_ou
  by_cases ck : 6 < k
  · rw [if_pos ck] at e
    rw [if_pos ck, if_pos ck]
    exact lm_ok_lo (fun _ _ => rfl) (fun _ _ => rfl) e (by omega) hr.2.1 i
  · rw [if_neg ck] at e
    have hi := hi (by omega)
    rw [if_neg ck, if_neg ck]
    by_cases c : r = 64
    · rw [if_pos c, if_pos c]
      have := hi.2 c
      unfold lm_o2
      rw [e (i / 4) (by omega)]
    · rw [if_neg c, if_neg c]
      unfold lm_o5
      rw [e (i / 8) (by omega)]
/-- the same out of values that are alike -/
theorem lm_he_out (h2 : k ≤ 12) (hf : h.1 < lm_rate k) (e : lm_he k h h') {i : Nat} (hi : k ≤ 6 → i < 64 ∧ (lm_rate k = 64 → i < 32)) : lm_ou T k (lm_rate k) (lm_hf T k (lm_rate k) h).2.2.1 i = lm_ou T k (lm_rate k) (lm_hf T k (lm_rate k) h').2.2.1 i := lm_he_ou (lm_kr_rate h2) (lm_rate_pos k) (lm_he_hf (lm_kr_rate h2) hf e) hi
theorem lm_he_0 {R S4 S6 J J' : Nat → Int64} {b b' : Nat → Int32} : lm_he k (0, Int64.ofNat 0, lm_st0' R S4 S6 k J, b) (0, Int64.ofNat 0, lm_st0' R S4 S6 k J', b') := by
  refine ⟨rfl, rfl, fun i hi => ?_, fun _ i hi => absurd hi (by show ¬ i < 0; omega)⟩
  have : i < 25 := by split at hi <;> omega
  show lm_st0' R S4 S6 k J i = lm_st0' R S4 S6 k J' i
  unfold lm_st0'
  rw [if_pos this, if_pos this]
theorem lm_he.symm (e : lm_he k h h') : lm_he k h' h := ⟨e.1.symm, e.2.1.symm, fun i hi => (e.2.2.1 i hi).symm, fun g i hi => (e.2.2.2 g i (by rw [e.1]; exact hi)).symm⟩
theorem lm_he.trans {h'' : lm_HV} (e : lm_he k h h') (f : lm_he k h' h'') : lm_he k h h'' := ⟨e.1.trans f.1, e.2.1.trans f.2.1, fun i hi => (e.2.2.1 i hi).trans (f.2.2.1 i hi), fun g i hi => (e.2.2.2 g i hi).trans (f.2.2.2 g i (by rw [← e.1]; exact hi))⟩
end LMHE
