/-! ===== the bytes of a digest depend on the bytes alone ===== -/
section LMVE
variable {m M : lm_MI} {n N : lm_ML} {k b q p l q2 p2 l2 : Nat}
theorem lm_dv_eq (hT : lm_tb M N = lm_tb m n) (h0 : lm_h0 M N k = lm_h0 m n k) (h : ∀ t, t < l → lm_b8 (m q t) = lm_b8 (M p t)) (i : Nat) : lm_dv m n k q l i = lm_dv M N k p l i := by
  unfold lm_dv
  rw [hT, h0, lm_hps_ext (g := fun i => lm_b8 (m q i)) (g' := fun i => lm_b8 (M p i)) l 0 _ (fun i _ hi => h i (by omega))]
theorem lm_gv2_eq (hT : lm_tb M N = lm_tb m n) (h0 : lm_h0 M N b = lm_h0 m n b) (h : ∀ t, t < l → lm_b8 (m q t) = lm_b8 (M p t)) (i : Nat) : lm_gv2 m n b q l i = lm_gv2 M N b p l i := by
  unfold lm_gv2
  rw [hT, h0, lm_hps_ext (g := fun i => lm_b8 (m q i)) (g' := fun i => lm_b8 (M p i)) l 0 _ (fun i _ hi => h i (by omega))]
theorem lm_kb_eq {T : lm_TB} {h0 : lm_HV} {key key' : Nat → Int32} (h : ∀ t, t < l → lm_b8 (key t) = lm_b8 (key' t)) : lm_kb T b key l h0 = lm_kb T b key' l h0 := by
  funext i
  unfold lm_kb
  by_cases c : l ≤ lm_rate b
  · rw [if_pos c, if_pos c]
    by_cases ci : i < l
    · rw [if_pos ci, if_pos ci, h i ci]
    · rw [if_neg ci, if_neg ci]
  · rw [if_neg c, if_neg c, lm_hps_ext (g := fun i => lm_b8 (key i)) (g' := fun i => lm_b8 (key' i)) l 0 _ (fun i _ hi => h i (by omega))]
theorem lm_hv_eq (hT : lm_tb M N = lm_tb m n) (h0 : lm_h0 M N b = lm_h0 m n b) (h : ∀ t, t < l → lm_b8 (m q t) = lm_b8 (M p t)) (h2 : ∀ t, t < l2 → lm_b8 (m q2 t) = lm_b8 (M p2 t)) (i : Nat) : lm_hv m n b q l q2 l2 i = lm_hv M N b p l p2 l2 i := by
  unfold lm_hv
  rw [hT, h0, lm_kb_eq h, lm_hps_ext (g := fun i => lm_b8 (m q2 i)) (g' := fun i => lm_b8 (M p2 i)) l2 0 _ (fun i _ hi => h2 i (by omega))]
end LMVE
