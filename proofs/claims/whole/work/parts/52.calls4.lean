/-! ===== alter, word, same of both ===== -/
theorem lm_place (v : Int32) {l : Nat} (hl : l ≤ 65536) : (∃ k, k < l ∧ v = Int32.ofNat k) ∨ ((v < 0 ∨ ¬ v < Int32.ofNat l) ∧ ¬ ((0 : Int32) ≤ v ∧ v ≤ Int32.ofNat l - Int32.ofInt 1)) := by
  by_cases h0 : v < 0
  · exact Or.inr ⟨Or.inl h0, fun h => absurd h0 (Int32.not_lt.mpr h.1)⟩
  · have h0' : (0 : Int32) ≤ v := Int32.not_lt.mp h0
    by_cases h1 : v < Int32.ofNat l
    · obtain ⟨k, hk, e⟩ := lm_nat_of (n := l) (by omega) h0' (Int32.le_of_lt h1)
      subst e
      exact Or.inl ⟨k, (lm_lt32 (by omega) (by omega)).mp h1, rfl⟩
    · refine Or.inr ⟨Or.inr h1, fun h => h1 ?_⟩
      cases l with
      | zero =>
        exfalso
        have h2 : v ≤ -1 := h.2
        have h3 : (0 : Int32) ≤ -1 := Int32.le_trans h0' h2
        exact absurd h3 (by decide)
      | succ l =>
        have e : Int32.ofNat (l + 1) - Int32.ofInt 1 = Int32.ofNat l := by
          rw [lm_K1, ← lm_oo, Int32.add_sub_cancel]
        rw [e] at h
        exact Int32.lt_of_le_of_lt h.2 ((lm_lt32 (by omega) (by omega)).mpr (by omega))
section LMC4
variable {sc : lm_H} {d i j c l a k : Nat} {m : lm_MI} {n : lm_ML} {x : lm_H × Nat × Nat} {v w : Int32}
theorem lm_t52p (hk : k < l) (hl : l ≤ 65536) {σ : lm_S} : lm_cal sc (d + 1) 52 [.int (Int32.ofNat k), .int (Int32.ofInt 0), .int (Int32.ofNat l - Int32.ofInt 1)] σ = some (.ok (some (.int (lm_z true))), σ) := by
  have h9 := lm_t52 (sc := sc) (d := d) σ (Int32.ofNat k) (Int32.ofInt 0) (Int32.ofNat l - Int32.ofInt 1)
  have e : Int32.ofNat l - Int32.ofInt 1 = Int32.ofNat (l - 1) := by
    have e1 : Int32.ofNat l = Int32.ofNat (l - 1) + Int32.ofNat 1 := by rw [lm_oo, Nat.sub_add_cancel (by omega)]
    rw [e1, lm_K1, Int32.add_sub_cancel]
  have r := lm_in_range (i := k) (n := l - 1) (by omega) (by omega)
  rw [e, decide_eq_true (show Int32.ofInt 0 ≤ Int32.ofNat k from r.1), decide_eq_true r.2] at h9
  rw [e]
  exact h9
theorem lm_t52q {b : Int32} (h : ¬ ((0 : Int32) ≤ v ∧ v ≤ b)) {σ : lm_S} : lm_cal sc (d + 1) 52 [.int v, .int (Int32.ofInt 0), .int b] σ = some (.ok (some (.int (lm_z false))), σ) := by
  have h9 := lm_t52 (sc := sc) (d := d) σ v (Int32.ofInt 0) b
  have e : (decide (Int32.ofInt 0 ≤ v) && decide (v ≤ b)) = false := by
    rw [Bool.and_eq_false_iff, decide_eq_false_iff_not, decide_eq_false_iff_not]
    by_cases h1 : Int32.ofInt 0 ≤ v
    · exact Or.inr fun h2 => h ⟨h1, h2⟩
    · exact Or.inl h1
  rw [e] at h9
  exact h9
theorem lm_u135 {o : Nat} (ho : lm_fdp 404 o = some 0) (h : m o 1 = Int32.ofNat l) (hk : k < l) (hl : l ≤ 65536) : lm_cal sc (d + 1) 135 [.ref o, .int (Int32.ofNat k)] (lm_w m n x) = some (.ok none, lm_w m n x) := by
  refine lm_cal_of (Y := lm_m135) rfl rfl (lm_e135_0 ?_)
  unfold lm_q135_0
  refine lm_iF (show ¬ Int32.ofNat k < 0 from (lm_nn (by omega)).1) ?_
  refine lm_sI ho ?_
  simp only [Nat.reduceDiv, Nat.reduceMod, h]
  exact lm_ltT (by omega) (by omega) hk rfl
theorem lm_u135e {o : Nat} (ho : lm_fdp 404 o = some 0) (h : m o 1 = Int32.ofNat l) (hv : v < 0 ∨ ¬ v < Int32.ofNat l) (hr : lm_rom x) : lm_cal sc (d + 1) 135 [.ref o, .int v] (lm_w m n x) = some (.error (lm_xp x), lm_w m n (lm_xx 12 x)) := by
  refine lm_cal_of (Y := lm_m135) rfl rfl (lm_e135_0 ?_)
  unfold lm_q135_0
  by_cases h0 : v < 0
  · exact lm_iT h0 (lm_wT hr)
  · refine lm_iF h0 ?_
    refine lm_sI ho ?_
    simp only [Nat.reduceDiv, Nat.reduceMod, h]
    exact lm_iF (hv.resolve_left h0) (lm_wT hr)
/-! alter -/
theorem lm_u55 (hi : i < 8) (hc : c ≤ 255) (h : m (26 + 2 * i) 1 = Int32.ofNat l) (hk : k < l) (hl : l ≤ 65536) : lm_cal sc (d + 2) 55 [.ref 0, .int (Int32.ofNat i), .int (Int32.ofNat k), .int (Int32.ofNat c)] (lm_w m n x) = some (.ok (some (.int (lm_b8 (lm_b8 (lm_b8 (m (27 + 2 * i) k) ^^^ lm_b8 (Int32.ofNat c))) &&& Int32.ofNat 255))), lm_w (lm_u m (27 + 2 * i) k (lm_b8 (lm_b8 (m (27 + 2 * i) k) ^^^ lm_b8 (Int32.ofNat c)))) n x) := by
  refine lm_cal_of (Y := lm_m55) rfl rfl (lm_e55_0 ?_)
  unfold lm_q55_0
  refine lm_cV (lm_t132n (i := i) (d := d) (n := 7) (by omega) (by omega)) ?_
  refine lm_cV (lm_t132n (i := c) (d := d) (n := 255) (by omega) (by omega)) ?_
  repeat (first
    | ((with_reducible apply lm_sI); exact rfl)
    | ((with_reducible apply lm_sR); exact rfl)
    | ((with_reducible apply lm_sS); exact rfl; exact rfl)
    | ((with_reducible apply lm_sL); exact rfl)
    | ((with_reducible apply lm_sP); exact rfl; exact rfl)
    | ((with_reducible apply lm_sPL); exact rfl; exact rfl)
    | ((with_reducible apply lm_sAA); exact rfl; first | exact rfl | exact lm_roO (by omega) | exact lm_roM (by omega))
    | ((with_reducible apply lm_sI); exact lm_fpL (by omega))
    | ((with_reducible apply lm_sR); exact lm_fpB (by omega))
    | ((with_reducible apply lm_sP); exact lm_fpL (by omega); exact rfl)
    | ((with_reducible apply lm_sS); exact lm_ocO (by omega); exact rfl)
    | ((with_reducible apply lm_sA); exact rfl; omega)
    | ((with_reducible apply lm_sJ); exact rfl; omega)
    | ((with_reducible apply lm_sB); (first | exact rfl | exact lm_arB (by omega) | exact lm_arM (by omega)); omega)
    | ((with_reducible apply lm_wA); exact rfl; omega)
    | ((with_reducible apply lm_wJ); exact rfl; omega)
    | ((with_reducible apply lm_wB); (first | exact rfl | exact lm_arB (by omega) | exact lm_arM (by omega)); omega)
    | ((with_reducible apply lm_sAl); (first | exact rfl | exact lm_arB (by omega) | exact lm_arM (by omega)); omega)
    | ((with_reducible apply lm_iW); decide))
  refine lm_cV (lm_u135 (lm_fpL hi) h hk hl) ?_
  repeat (first
    | ((with_reducible apply lm_sI); exact rfl)
    | ((with_reducible apply lm_sR); exact rfl)
    | ((with_reducible apply lm_sS); exact rfl; exact rfl)
    | ((with_reducible apply lm_sL); exact rfl)
    | ((with_reducible apply lm_sP); exact rfl; exact rfl)
    | ((with_reducible apply lm_sPL); exact rfl; exact rfl)
    | ((with_reducible apply lm_sAA); exact rfl; first | exact rfl | exact lm_roO (by omega) | exact lm_roM (by omega))
    | ((with_reducible apply lm_sI); exact lm_fpL (by omega))
    | ((with_reducible apply lm_sR); exact lm_fpB (by omega))
    | ((with_reducible apply lm_sP); exact lm_fpL (by omega); exact rfl)
    | ((with_reducible apply lm_sS); exact lm_ocO (by omega); exact rfl)
    | ((with_reducible apply lm_sA); exact rfl; omega)
    | ((with_reducible apply lm_sJ); exact rfl; omega)
    | ((with_reducible apply lm_sB); (first | exact rfl | exact lm_arB (by omega) | exact lm_arM (by omega)); omega)
    | ((with_reducible apply lm_wA); exact rfl; omega)
    | ((with_reducible apply lm_wJ); exact rfl; omega)
    | ((with_reducible apply lm_wB); (first | exact rfl | exact lm_arB (by omega) | exact lm_arM (by omega)); omega)
    | ((with_reducible apply lm_sAl); (first | exact rfl | exact lm_arB (by omega) | exact lm_arM (by omega)); omega)
    | ((with_reducible apply lm_iW); decide))
  simp only [lm_u_eq, lm_K255]
  exact rfl
theorem lm_u55a (h : ¬ ((0 : Int32) ≤ v ∧ v ≤ Int32.ofNat 7)) {u : Int32} (hr : lm_rom x) : lm_cal sc (d + 2) 55 [.ref 0, .int v, .int w, .int u] (lm_w m n x) = some (.error (lm_xp x), lm_w m n (lm_xx 13 x)) := by
  refine lm_cal_of (Y := lm_m55) rfl rfl (lm_e55_0 ?_)
  unfold lm_q55_0
  exact lm_cVe (lm_u132e (d := d) (k := 7) h hr)
theorem lm_u55b (hi : i < 8) {u : Int32} (h : ¬ ((0 : Int32) ≤ u ∧ u ≤ Int32.ofNat 255)) (hr : lm_rom x) : lm_cal sc (d + 2) 55 [.ref 0, .int (Int32.ofNat i), .int w, .int u] (lm_w m n x) = some (.error (lm_xp x), lm_w m n (lm_xx 13 x)) := by
  refine lm_cal_of (Y := lm_m55) rfl rfl (lm_e55_0 ?_)
  unfold lm_q55_0
  refine lm_cV (lm_t132n (i := i) (d := d) (n := 7) (by omega) (by omega)) ?_
  exact lm_cVe (lm_u132e (d := d) (k := 255) h hr)
theorem lm_u55c (hi : i < 8) (hc : c ≤ 255) (h : m (26 + 2 * i) 1 = Int32.ofNat l) (hv : v < 0 ∨ ¬ v < Int32.ofNat l) (hr : lm_rom x) : lm_cal sc (d + 2) 55 [.ref 0, .int (Int32.ofNat i), .int v, .int (Int32.ofNat c)] (lm_w m n x) = some (.error (lm_xp x), lm_w m n (lm_xx 12 x)) := by
  refine lm_cal_of (Y := lm_m55) rfl rfl (lm_e55_0 ?_)
  unfold lm_q55_0
  refine lm_cV (lm_t132n (i := i) (d := d) (n := 7) (by omega) (by omega)) ?_
  refine lm_cV (lm_t132n (i := c) (d := d) (n := 255) (by omega) (by omega)) ?_
  repeat (first
    | ((with_reducible apply lm_sI); exact rfl)
    | ((with_reducible apply lm_sR); exact rfl)
    | ((with_reducible apply lm_sS); exact rfl; exact rfl)
    | ((with_reducible apply lm_sL); exact rfl)
    | ((with_reducible apply lm_sP); exact rfl; exact rfl)
    | ((with_reducible apply lm_sPL); exact rfl; exact rfl)
    | ((with_reducible apply lm_sAA); exact rfl; first | exact rfl | exact lm_roO (by omega) | exact lm_roM (by omega))
    | ((with_reducible apply lm_sI); exact lm_fpL (by omega))
    | ((with_reducible apply lm_sR); exact lm_fpB (by omega))
    | ((with_reducible apply lm_sP); exact lm_fpL (by omega); exact rfl)
    | ((with_reducible apply lm_sS); exact lm_ocO (by omega); exact rfl)
    | ((with_reducible apply lm_sA); exact rfl; omega)
    | ((with_reducible apply lm_sJ); exact rfl; omega)
    | ((with_reducible apply lm_sB); (first | exact rfl | exact lm_arB (by omega) | exact lm_arM (by omega)); omega)
    | ((with_reducible apply lm_wA); exact rfl; omega)
    | ((with_reducible apply lm_wJ); exact rfl; omega)
    | ((with_reducible apply lm_wB); (first | exact rfl | exact lm_arB (by omega) | exact lm_arM (by omega)); omega)
    | ((with_reducible apply lm_sAl); (first | exact rfl | exact lm_arB (by omega) | exact lm_arM (by omega)); omega)
    | ((with_reducible apply lm_iW); decide))
  exact lm_cVe (lm_u135e (lm_fpL hi) h hv hr)
theorem lm_u12 (hi : i < 8) (hc : c ≤ 255) (h : m 214 i = Int32.ofNat l) (hk : k < l) (hl : l ≤ 65536) : lm_cal sc (d + 2) 12 [.ref 203, .int (Int32.ofNat i), .int (Int32.ofNat k), .int (Int32.ofNat c)] (lm_w m n x) = some (.ok (some (.int (lm_b8 (lm_b8 (lm_b8 (m (206 + i) k) ^^^ lm_b8 (Int32.ofNat c))) &&& Int32.ofNat 255))), lm_w (lm_u (lm_u m 203 4 0) (206 + i) k (lm_b8 (lm_b8 (m (206 + i) k) ^^^ lm_b8 (Int32.ofNat c)))) n x) := by
  refine lm_cal_of (Y := lm_m12) rfl rfl (lm_e12_0 ?_)
  unfold lm_q12_0
  refine lm_cI (lm_t52n (i := i) (d := d) (n := 7) (by omega) (by omega)) ?_
  refine lm_iF (show ¬ (1 : Int32) = 0 by decide) ?_
  refine lm_cI (lm_t52n (i := c) (d := d) (n := 255) (by omega) (by omega)) ?_
  refine lm_iF (show ¬ (1 : Int32) = 0 by decide) ?_
  refine lm_e12_27 ?_
  unfold lm_q12_27
  repeat (first
    | ((with_reducible apply lm_sI); exact rfl)
    | ((with_reducible apply lm_sR); exact rfl)
    | ((with_reducible apply lm_sS); exact rfl; exact rfl)
    | ((with_reducible apply lm_sL); exact rfl)
    | ((with_reducible apply lm_sP); exact rfl; exact rfl)
    | ((with_reducible apply lm_sPL); exact rfl; exact rfl)
    | ((with_reducible apply lm_sAA); exact rfl; first | exact rfl | exact lm_roO (by omega) | exact lm_roM (by omega))
    | ((with_reducible apply lm_sI); exact lm_fpL (by omega))
    | ((with_reducible apply lm_sR); exact lm_fpB (by omega))
    | ((with_reducible apply lm_sP); exact lm_fpL (by omega); exact rfl)
    | ((with_reducible apply lm_sS); exact lm_ocO (by omega); exact rfl)
    | ((with_reducible apply lm_sA); exact rfl; omega)
    | ((with_reducible apply lm_sJ); exact rfl; omega)
    | ((with_reducible apply lm_sB); (first | exact rfl | exact lm_arB (by omega) | exact lm_arM (by omega)); omega)
    | ((with_reducible apply lm_wA); exact rfl; omega)
    | ((with_reducible apply lm_wJ); exact rfl; omega)
    | ((with_reducible apply lm_wB); (first | exact rfl | exact lm_arB (by omega) | exact lm_arM (by omega)); omega)
    | ((with_reducible apply lm_sAl); (first | exact rfl | exact lm_arB (by omega) | exact lm_arM (by omega)); omega)
    | ((with_reducible apply lm_iW); decide))
  refine lm_cI (lm_u49 (d := d) true) ?_
  refine lm_iF (show ¬ (1 : Int32) = 0 by decide) ?_
  repeat (first
    | ((with_reducible apply lm_sI); exact rfl)
    | ((with_reducible apply lm_sR); exact rfl)
    | ((with_reducible apply lm_sS); exact rfl; exact rfl)
    | ((with_reducible apply lm_sL); exact rfl)
    | ((with_reducible apply lm_sP); exact rfl; exact rfl)
    | ((with_reducible apply lm_sPL); exact rfl; exact rfl)
    | ((with_reducible apply lm_sAA); exact rfl; first | exact rfl | exact lm_roO (by omega) | exact lm_roM (by omega))
    | ((with_reducible apply lm_sI); exact lm_fpL (by omega))
    | ((with_reducible apply lm_sR); exact lm_fpB (by omega))
    | ((with_reducible apply lm_sP); exact lm_fpL (by omega); exact rfl)
    | ((with_reducible apply lm_sS); exact lm_ocO (by omega); exact rfl)
    | ((with_reducible apply lm_sA); exact rfl; omega)
    | ((with_reducible apply lm_sJ); exact rfl; omega)
    | ((with_reducible apply lm_sB); (first | exact rfl | exact lm_arB (by omega) | exact lm_arM (by omega)); omega)
    | ((with_reducible apply lm_wA); exact rfl; omega)
    | ((with_reducible apply lm_wJ); exact rfl; omega)
    | ((with_reducible apply lm_wB); (first | exact rfl | exact lm_arB (by omega) | exact lm_arM (by omega)); omega)
    | ((with_reducible apply lm_sAl); (first | exact rfl | exact lm_arB (by omega) | exact lm_arM (by omega)); omega)
    | ((with_reducible apply lm_iW); decide))
  rw [show lm_u m 203 4 (cond true 0 (Int32.ofInt 1)) 214 i = Int32.ofNat l by rw [lm_u_row (by decide), h]]
  refine lm_cI (lm_t52p hk hl) ?_
  repeat (first
    | ((with_reducible apply lm_sI); exact rfl)
    | ((with_reducible apply lm_sR); exact rfl)
    | ((with_reducible apply lm_sS); exact rfl; exact rfl)
    | ((with_reducible apply lm_sL); exact rfl)
    | ((with_reducible apply lm_sP); exact rfl; exact rfl)
    | ((with_reducible apply lm_sPL); exact rfl; exact rfl)
    | ((with_reducible apply lm_sAA); exact rfl; first | exact rfl | exact lm_roO (by omega) | exact lm_roM (by omega))
    | ((with_reducible apply lm_sI); exact lm_fpL (by omega))
    | ((with_reducible apply lm_sR); exact lm_fpB (by omega))
    | ((with_reducible apply lm_sP); exact lm_fpL (by omega); exact rfl)
    | ((with_reducible apply lm_sS); exact lm_ocO (by omega); exact rfl)
    | ((with_reducible apply lm_sA); exact rfl; omega)
    | ((with_reducible apply lm_sJ); exact rfl; omega)
    | ((with_reducible apply lm_sB); (first | exact rfl | exact lm_arB (by omega) | exact lm_arM (by omega)); omega)
    | ((with_reducible apply lm_wA); exact rfl; omega)
    | ((with_reducible apply lm_wJ); exact rfl; omega)
    | ((with_reducible apply lm_wB); (first | exact rfl | exact lm_arB (by omega) | exact lm_arM (by omega)); omega)
    | ((with_reducible apply lm_sAl); (first | exact rfl | exact lm_arB (by omega) | exact lm_arM (by omega)); omega)
    | ((with_reducible apply lm_iW); decide))
  refine lm_cI (lm_u49 (d := d) true) ?_
  refine lm_iT (show ¬ (1 : Int32) = 0 by decide) ?_
  rw [lm_uu]
  repeat (first
    | ((with_reducible apply lm_sI); exact rfl)
    | ((with_reducible apply lm_sR); exact rfl)
    | ((with_reducible apply lm_sS); exact rfl; exact rfl)
    | ((with_reducible apply lm_sL); exact rfl)
    | ((with_reducible apply lm_sP); exact rfl; exact rfl)
    | ((with_reducible apply lm_sPL); exact rfl; exact rfl)
    | ((with_reducible apply lm_sAA); exact rfl; first | exact rfl | exact lm_roO (by omega) | exact lm_roM (by omega))
    | ((with_reducible apply lm_sI); exact lm_fpL (by omega))
    | ((with_reducible apply lm_sR); exact lm_fpB (by omega))
    | ((with_reducible apply lm_sP); exact lm_fpL (by omega); exact rfl)
    | ((with_reducible apply lm_sS); exact lm_ocO (by omega); exact rfl)
    | ((with_reducible apply lm_sA); exact rfl; omega)
    | ((with_reducible apply lm_sJ); exact rfl; omega)
    | ((with_reducible apply lm_sB); (first | exact rfl | exact lm_arB (by omega) | exact lm_arM (by omega)); omega)
    | ((with_reducible apply lm_wA); exact rfl; omega)
    | ((with_reducible apply lm_wJ); exact rfl; omega)
    | ((with_reducible apply lm_wB); (first | exact rfl | exact lm_arB (by omega) | exact lm_arM (by omega)); omega)
    | ((with_reducible apply lm_sAl); (first | exact rfl | exact lm_arB (by omega) | exact lm_arM (by omega)); omega)
    | ((with_reducible apply lm_iW); decide))
  rw [lm_u_eq, show lm_u m 203 4 (cond true 0 (Int32.ofInt 2)) (206 + i) k = m (206 + i) k by rw [lm_u_row (by omega)], lm_K255]
  exact rfl
theorem lm_u12a {u : Int32} (h : ¬ ((0 : Int32) ≤ v ∧ v ≤ Int32.ofNat 7)) : lm_cal sc (d + 2) 12 [.ref 203, .int v, .int w, .int u] (lm_w m n x) = some (.ok (some (.int 0)), lm_w (lm_u m 203 4 1) n x) := by
  refine lm_cal_of (Y := lm_m12) rfl rfl (lm_e12_0 ?_)
  unfold lm_q12_0
  refine lm_cI (lm_t52f (d := d) h) ?_
  refine lm_iT (show (0 : Int32) = 0 by decide) ?_
  refine lm_e12_26 ?_
  unfold lm_q12_26
  refine lm_e12_27 ?_
  unfold lm_q12_27
  repeat (first
    | ((with_reducible apply lm_sI); exact rfl)
    | ((with_reducible apply lm_sR); exact rfl)
    | ((with_reducible apply lm_sS); exact rfl; exact rfl)
    | ((with_reducible apply lm_sL); exact rfl)
    | ((with_reducible apply lm_sP); exact rfl; exact rfl)
    | ((with_reducible apply lm_sPL); exact rfl; exact rfl)
    | ((with_reducible apply lm_sAA); exact rfl; first | exact rfl | exact lm_roO (by omega) | exact lm_roM (by omega))
    | ((with_reducible apply lm_sI); exact lm_fpL (by omega))
    | ((with_reducible apply lm_sR); exact lm_fpB (by omega))
    | ((with_reducible apply lm_sP); exact lm_fpL (by omega); exact rfl)
    | ((with_reducible apply lm_sS); exact lm_ocO (by omega); exact rfl)
    | ((with_reducible apply lm_sA); exact rfl; omega)
    | ((with_reducible apply lm_sJ); exact rfl; omega)
    | ((with_reducible apply lm_sB); (first | exact rfl | exact lm_arB (by omega) | exact lm_arM (by omega)); omega)
    | ((with_reducible apply lm_wA); exact rfl; omega)
    | ((with_reducible apply lm_wJ); exact rfl; omega)
    | ((with_reducible apply lm_wB); (first | exact rfl | exact lm_arB (by omega) | exact lm_arM (by omega)); omega)
    | ((with_reducible apply lm_sAl); (first | exact rfl | exact lm_arB (by omega) | exact lm_arM (by omega)); omega)
    | ((with_reducible apply lm_iW); decide))
  refine lm_cI (lm_u49 (d := d) false) ?_
  refine lm_iT (show (0 : Int32) = 0 by decide) ?_
  exact rfl
theorem lm_u12b {u : Int32} (hi : i < 8) (h : ¬ ((0 : Int32) ≤ u ∧ u ≤ Int32.ofNat 255)) : lm_cal sc (d + 2) 12 [.ref 203, .int (Int32.ofNat i), .int w, .int u] (lm_w m n x) = some (.ok (some (.int 0)), lm_w (lm_u m 203 4 1) n x) := by
  refine lm_cal_of (Y := lm_m12) rfl rfl (lm_e12_0 ?_)
  unfold lm_q12_0
  refine lm_cI (lm_t52n (i := i) (d := d) (n := 7) (by omega) (by omega)) ?_
  refine lm_iF (show ¬ (1 : Int32) = 0 by decide) ?_
  refine lm_cI (lm_t52f (d := d) h) ?_
  refine lm_iT (show (0 : Int32) = 0 by decide) ?_
  refine lm_e12_26 ?_
  unfold lm_q12_26
  refine lm_e12_27 ?_
  unfold lm_q12_27
  repeat (first
    | ((with_reducible apply lm_sI); exact rfl)
    | ((with_reducible apply lm_sR); exact rfl)
    | ((with_reducible apply lm_sS); exact rfl; exact rfl)
    | ((with_reducible apply lm_sL); exact rfl)
    | ((with_reducible apply lm_sP); exact rfl; exact rfl)
    | ((with_reducible apply lm_sPL); exact rfl; exact rfl)
    | ((with_reducible apply lm_sAA); exact rfl; first | exact rfl | exact lm_roO (by omega) | exact lm_roM (by omega))
    | ((with_reducible apply lm_sI); exact lm_fpL (by omega))
    | ((with_reducible apply lm_sR); exact lm_fpB (by omega))
    | ((with_reducible apply lm_sP); exact lm_fpL (by omega); exact rfl)
    | ((with_reducible apply lm_sS); exact lm_ocO (by omega); exact rfl)
    | ((with_reducible apply lm_sA); exact rfl; omega)
    | ((with_reducible apply lm_sJ); exact rfl; omega)
    | ((with_reducible apply lm_sB); (first | exact rfl | exact lm_arB (by omega) | exact lm_arM (by omega)); omega)
    | ((with_reducible apply lm_wA); exact rfl; omega)
    | ((with_reducible apply lm_wJ); exact rfl; omega)
    | ((with_reducible apply lm_wB); (first | exact rfl | exact lm_arB (by omega) | exact lm_arM (by omega)); omega)
    | ((with_reducible apply lm_sAl); (first | exact rfl | exact lm_arB (by omega) | exact lm_arM (by omega)); omega)
    | ((with_reducible apply lm_iW); decide))
  refine lm_cI (lm_u49 (d := d) false) ?_
  refine lm_iT (show (0 : Int32) = 0 by decide) ?_
  exact rfl
theorem lm_u12c (hi : i < 8) (hc : c ≤ 255) (h : m 214 i = Int32.ofNat l) (hv : ¬ ((0 : Int32) ≤ v ∧ v ≤ Int32.ofNat l - Int32.ofInt 1)) : lm_cal sc (d + 2) 12 [.ref 203, .int (Int32.ofNat i), .int v, .int (Int32.ofNat c)] (lm_w m n x) = some (.ok (some (.int 0)), lm_w (lm_u m 203 4 2) n x) := by
  refine lm_cal_of (Y := lm_m12) rfl rfl (lm_e12_0 ?_)
  unfold lm_q12_0
  refine lm_cI (lm_t52n (i := i) (d := d) (n := 7) (by omega) (by omega)) ?_
  refine lm_iF (show ¬ (1 : Int32) = 0 by decide) ?_
  refine lm_cI (lm_t52n (i := c) (d := d) (n := 255) (by omega) (by omega)) ?_
  refine lm_iF (show ¬ (1 : Int32) = 0 by decide) ?_
  refine lm_e12_27 ?_
  unfold lm_q12_27
  repeat (first
    | ((with_reducible apply lm_sI); exact rfl)
    | ((with_reducible apply lm_sR); exact rfl)
    | ((with_reducible apply lm_sS); exact rfl; exact rfl)
    | ((with_reducible apply lm_sL); exact rfl)
    | ((with_reducible apply lm_sP); exact rfl; exact rfl)
    | ((with_reducible apply lm_sPL); exact rfl; exact rfl)
    | ((with_reducible apply lm_sAA); exact rfl; first | exact rfl | exact lm_roO (by omega) | exact lm_roM (by omega))
    | ((with_reducible apply lm_sI); exact lm_fpL (by omega))
    | ((with_reducible apply lm_sR); exact lm_fpB (by omega))
    | ((with_reducible apply lm_sP); exact lm_fpL (by omega); exact rfl)
    | ((with_reducible apply lm_sS); exact lm_ocO (by omega); exact rfl)
    | ((with_reducible apply lm_sA); exact rfl; omega)
    | ((with_reducible apply lm_sJ); exact rfl; omega)
    | ((with_reducible apply lm_sB); (first | exact rfl | exact lm_arB (by omega) | exact lm_arM (by omega)); omega)
    | ((with_reducible apply lm_wA); exact rfl; omega)
    | ((with_reducible apply lm_wJ); exact rfl; omega)
    | ((with_reducible apply lm_wB); (first | exact rfl | exact lm_arB (by omega) | exact lm_arM (by omega)); omega)
    | ((with_reducible apply lm_sAl); (first | exact rfl | exact lm_arB (by omega) | exact lm_arM (by omega)); omega)
    | ((with_reducible apply lm_iW); decide))
  refine lm_cI (lm_u49 (d := d) true) ?_
  refine lm_iF (show ¬ (1 : Int32) = 0 by decide) ?_
  repeat (first
    | ((with_reducible apply lm_sI); exact rfl)
    | ((with_reducible apply lm_sR); exact rfl)
    | ((with_reducible apply lm_sS); exact rfl; exact rfl)
    | ((with_reducible apply lm_sL); exact rfl)
    | ((with_reducible apply lm_sP); exact rfl; exact rfl)
    | ((with_reducible apply lm_sPL); exact rfl; exact rfl)
    | ((with_reducible apply lm_sAA); exact rfl; first | exact rfl | exact lm_roO (by omega) | exact lm_roM (by omega))
    | ((with_reducible apply lm_sI); exact lm_fpL (by omega))
    | ((with_reducible apply lm_sR); exact lm_fpB (by omega))
    | ((with_reducible apply lm_sP); exact lm_fpL (by omega); exact rfl)
    | ((with_reducible apply lm_sS); exact lm_ocO (by omega); exact rfl)
    | ((with_reducible apply lm_sA); exact rfl; omega)
    | ((with_reducible apply lm_sJ); exact rfl; omega)
    | ((with_reducible apply lm_sB); (first | exact rfl | exact lm_arB (by omega) | exact lm_arM (by omega)); omega)
    | ((with_reducible apply lm_wA); exact rfl; omega)
    | ((with_reducible apply lm_wJ); exact rfl; omega)
    | ((with_reducible apply lm_wB); (first | exact rfl | exact lm_arB (by omega) | exact lm_arM (by omega)); omega)
    | ((with_reducible apply lm_sAl); (first | exact rfl | exact lm_arB (by omega) | exact lm_arM (by omega)); omega)
    | ((with_reducible apply lm_iW); decide))
  rw [show lm_u m 203 4 (cond true 0 (Int32.ofInt 1)) 214 i = Int32.ofNat l by rw [lm_u_row (by decide), h]]
  refine lm_cI (lm_t52q hv) ?_
  repeat (first
    | ((with_reducible apply lm_sI); exact rfl)
    | ((with_reducible apply lm_sR); exact rfl)
    | ((with_reducible apply lm_sS); exact rfl; exact rfl)
    | ((with_reducible apply lm_sL); exact rfl)
    | ((with_reducible apply lm_sP); exact rfl; exact rfl)
    | ((with_reducible apply lm_sPL); exact rfl; exact rfl)
    | ((with_reducible apply lm_sAA); exact rfl; first | exact rfl | exact lm_roO (by omega) | exact lm_roM (by omega))
    | ((with_reducible apply lm_sI); exact lm_fpL (by omega))
    | ((with_reducible apply lm_sR); exact lm_fpB (by omega))
    | ((with_reducible apply lm_sP); exact lm_fpL (by omega); exact rfl)
    | ((with_reducible apply lm_sS); exact lm_ocO (by omega); exact rfl)
    | ((with_reducible apply lm_sA); exact rfl; omega)
    | ((with_reducible apply lm_sJ); exact rfl; omega)
    | ((with_reducible apply lm_sB); (first | exact rfl | exact lm_arB (by omega) | exact lm_arM (by omega)); omega)
    | ((with_reducible apply lm_wA); exact rfl; omega)
    | ((with_reducible apply lm_wJ); exact rfl; omega)
    | ((with_reducible apply lm_wB); (first | exact rfl | exact lm_arB (by omega) | exact lm_arM (by omega)); omega)
    | ((with_reducible apply lm_sAl); (first | exact rfl | exact lm_arB (by omega) | exact lm_arM (by omega)); omega)
    | ((with_reducible apply lm_iW); decide))
  refine lm_cI (lm_u49 (d := d) false) ?_
  refine lm_iF (show ¬ ¬ (0 : Int32) = 0 by decide) ?_
  rw [lm_uu]
  exact rfl
end LMC4
