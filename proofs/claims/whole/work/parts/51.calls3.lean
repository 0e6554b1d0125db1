/-! ===== the class's end, copy, resize ===== -/
section LMC3
variable {sc : lm_H} {d i j c l a : Nat} {m : lm_MI} {n : lm_ML} {x : lm_H × Nat × Nat} {v w : Int32}
/-- become -/
theorem lm_u133 {o q p k : Nat} (h1 : lm_fdp 402 o = some (q + 5)) (h2 : lm_fdp 404 o = some 0) (h3 : lm_ar q = some (1, 65536)) (h4 : lm_ar p = some (1, k)) (hc : c ≤ k) (hd : c ≤ 65536) : lm_cal sc (d + 1) 133 [.ref o, .ref p, .int (Int32.ofNat c)] (lm_w m n x) = some (.ok none, lm_w (lm_u (lm_cp m q 0 p 0 c) o 1 (Int32.ofNat c)) n x) := by
  refine lm_cal_of (Y := lm_m133) rfl rfl (lm_e133_0 ?_)
  unfold lm_q133_0
  refine lm_sR h1 ?_
  simp only [lm_K0]
  refine lm_sCp h4 h3 (Or.inr rfl) (by omega) (by omega) ?_
  refine lm_sP h2 rfl ?_
  exact rfl
theorem lm_u51 (hi : i < 8) (h : m 2 1 = Int32.ofNat l) (hc : c ≤ l) (hl : l ≤ 65536) : lm_cal sc (d + 2) 51 [.ref 0, .int (Int32.ofNat i), .int (Int32.ofNat c)] (lm_w m n x) = some (.ok (some (.int (Int32.ofNat c))), lm_w (lm_u (lm_u (lm_cp m (27 + 2 * i) 0 3 0 c) (26 + 2 * i) 1 (Int32.ofNat c)) 2 1 0) n x) := by
  refine lm_cal_of (Y := lm_m51) rfl rfl (lm_e51_0 ?_)
  unfold lm_q51_0
  refine lm_cV (lm_t132n (i := i) (d := d) (n := 7) (by omega) (by omega)) ?_
  refine lm_cV (lm_t132n (i := c) (d := d) (n := 65536) (by omega) (by omega)) ?_
  repeat (first
    | ((with_reducible apply lm_sI); exact rfl)
    | ((with_reducible apply lm_sR); exact rfl)
    | ((with_reducible apply lm_sS); exact rfl; exact rfl)
    | ((with_reducible apply lm_sL); exact rfl)
    | ((with_reducible apply lm_sP); exact rfl; exact rfl)
    | ((with_reducible apply lm_sPL); exact rfl; exact rfl)
    | ((with_reducible apply lm_sAA); exact rfl; first | exact rfl | exact lm_roO (by omega) | exact lm_roM (by omega))
    | ((with_reducible apply lm_sI); exact lm_fpL (by omega))
    | ((with_reducible apply lm_sR); exact lm_fpB (by omega))
    | ((with_reducible apply lm_sP); exact lm_fpL (by omega); exact rfl)
    | ((with_reducible apply lm_sS); exact lm_ocO (by omega); exact rfl)
    | ((with_reducible apply lm_sA); exact rfl; omega)
    | ((with_reducible apply lm_sJ); exact rfl; omega)
    | ((with_reducible apply lm_sB); (first | exact rfl | exact lm_arB (by omega) | exact lm_arM (by omega)); omega)
    | ((with_reducible apply lm_wA); exact rfl; omega)
    | ((with_reducible apply lm_wJ); exact rfl; omega)
    | ((with_reducible apply lm_wB); (first | exact rfl | exact lm_arB (by omega) | exact lm_arM (by omega)); omega)
    | ((with_reducible apply lm_sAl); (first | exact rfl | exact lm_arB (by omega) | exact lm_arM (by omega)); omega)
    | ((with_reducible apply lm_iW); decide))
  simp only [Nat.reduceDiv, Nat.reduceMod, h]
  refine lm_geT (by omega) (by omega) (by omega) ?_
  repeat (first
    | ((with_reducible apply lm_sI); exact rfl)
    | ((with_reducible apply lm_sR); exact rfl)
    | ((with_reducible apply lm_sS); exact rfl; exact rfl)
    | ((with_reducible apply lm_sL); exact rfl)
    | ((with_reducible apply lm_sP); exact rfl; exact rfl)
    | ((with_reducible apply lm_sPL); exact rfl; exact rfl)
    | ((with_reducible apply lm_sAA); exact rfl; first | exact rfl | exact lm_roO (by omega) | exact lm_roM (by omega))
    | ((with_reducible apply lm_sI); exact lm_fpL (by omega))
    | ((with_reducible apply lm_sR); exact lm_fpB (by omega))
    | ((with_reducible apply lm_sP); exact lm_fpL (by omega); exact rfl)
    | ((with_reducible apply lm_sS); exact lm_ocO (by omega); exact rfl)
    | ((with_reducible apply lm_sA); exact rfl; omega)
    | ((with_reducible apply lm_sJ); exact rfl; omega)
    | ((with_reducible apply lm_sB); (first | exact rfl | exact lm_arB (by omega) | exact lm_arM (by omega)); omega)
    | ((with_reducible apply lm_wA); exact rfl; omega)
    | ((with_reducible apply lm_wJ); exact rfl; omega)
    | ((with_reducible apply lm_wB); (first | exact rfl | exact lm_arB (by omega) | exact lm_arM (by omega)); omega)
    | ((with_reducible apply lm_sAl); (first | exact rfl | exact lm_arB (by omega) | exact lm_arM (by omega)); omega)
    | ((with_reducible apply lm_iW); decide))
  refine lm_cV (lm_u133 (lm_fpB hi) (lm_fpL hi) (lm_arB hi) (k := 65536) rfl (by omega) (by omega)) ?_
  repeat (first
    | ((with_reducible apply lm_sI); exact rfl)
    | ((with_reducible apply lm_sR); exact rfl)
    | ((with_reducible apply lm_sS); exact rfl; exact rfl)
    | ((with_reducible apply lm_sL); exact rfl)
    | ((with_reducible apply lm_sP); exact rfl; exact rfl)
    | ((with_reducible apply lm_sPL); exact rfl; exact rfl)
    | ((with_reducible apply lm_sAA); exact rfl; first | exact rfl | exact lm_roO (by omega) | exact lm_roM (by omega))
    | ((with_reducible apply lm_sI); exact lm_fpL (by omega))
    | ((with_reducible apply lm_sR); exact lm_fpB (by omega))
    | ((with_reducible apply lm_sP); exact lm_fpL (by omega); exact rfl)
    | ((with_reducible apply lm_sS); exact lm_ocO (by omega); exact rfl)
    | ((with_reducible apply lm_sA); exact rfl; omega)
    | ((with_reducible apply lm_sJ); exact rfl; omega)
    | ((with_reducible apply lm_sB); (first | exact rfl | exact lm_arB (by omega) | exact lm_arM (by omega)); omega)
    | ((with_reducible apply lm_wA); exact rfl; omega)
    | ((with_reducible apply lm_wJ); exact rfl; omega)
    | ((with_reducible apply lm_wB); (first | exact rfl | exact lm_arB (by omega) | exact lm_arM (by omega)); omega)
    | ((with_reducible apply lm_sAl); (first | exact rfl | exact lm_arB (by omega) | exact lm_arM (by omega)); omega)
    | ((with_reducible apply lm_iW); decide))
  exact rfl
theorem lm_u51a (h : ¬ ((0 : Int32) ≤ v ∧ v ≤ Int32.ofNat 7)) (hr : lm_rom x) : lm_cal sc (d + 2) 51 [.ref 0, .int v, .int w] (lm_w m n x) = some (.error (lm_xp x), lm_w m n (lm_xx 13 x)) := by
  refine lm_cal_of (Y := lm_m51) rfl rfl (lm_e51_0 ?_)
  unfold lm_q51_0
  exact lm_cVe (lm_u132e (d := d) (k := 7) h hr)
theorem lm_u51b (hi : i < 8) (h : ¬ ((0 : Int32) ≤ w ∧ w ≤ Int32.ofNat 65536)) (hr : lm_rom x) : lm_cal sc (d + 2) 51 [.ref 0, .int (Int32.ofNat i), .int w] (lm_w m n x) = some (.error (lm_xp x), lm_w m n (lm_xx 13 x)) := by
  refine lm_cal_of (Y := lm_m51) rfl rfl (lm_e51_0 ?_)
  unfold lm_q51_0
  refine lm_cV (lm_t132n (i := i) (d := d) (n := 7) (by omega) (by omega)) ?_
  exact lm_cVe (lm_u132e (d := d) (k := 65536) h hr)
theorem lm_u51c (hi : i < 8) (h : m 2 1 = Int32.ofNat l) (hc : ¬ c ≤ l) (hl : c ≤ 65536) (hr : lm_rom x) : lm_cal sc (d + 2) 51 [.ref 0, .int (Int32.ofNat i), .int (Int32.ofNat c)] (lm_w m n x) = some (.error (lm_xp x), lm_w m n (lm_xx 12 x)) := by
  refine lm_cal_of (Y := lm_m51) rfl rfl (lm_e51_0 ?_)
  unfold lm_q51_0
  refine lm_cV (lm_t132n (i := i) (d := d) (n := 7) (by omega) (by omega)) ?_
  refine lm_cV (lm_t132n (i := c) (d := d) (n := 65536) (by omega) (by omega)) ?_
  repeat (first
    | ((with_reducible apply lm_sI); exact rfl)
    | ((with_reducible apply lm_sR); exact rfl)
    | ((with_reducible apply lm_sS); exact rfl; exact rfl)
    | ((with_reducible apply lm_sL); exact rfl)
    | ((with_reducible apply lm_sP); exact rfl; exact rfl)
    | ((with_reducible apply lm_sPL); exact rfl; exact rfl)
    | ((with_reducible apply lm_sAA); exact rfl; first | exact rfl | exact lm_roO (by omega) | exact lm_roM (by omega))
    | ((with_reducible apply lm_sI); exact lm_fpL (by omega))
    | ((with_reducible apply lm_sR); exact lm_fpB (by omega))
    | ((with_reducible apply lm_sP); exact lm_fpL (by omega); exact rfl)
    | ((with_reducible apply lm_sS); exact lm_ocO (by omega); exact rfl)
    | ((with_reducible apply lm_sA); exact rfl; omega)
    | ((with_reducible apply lm_sJ); exact rfl; omega)
    | ((with_reducible apply lm_sB); (first | exact rfl | exact lm_arB (by omega) | exact lm_arM (by omega)); omega)
    | ((with_reducible apply lm_wA); exact rfl; omega)
    | ((with_reducible apply lm_wJ); exact rfl; omega)
    | ((with_reducible apply lm_wB); (first | exact rfl | exact lm_arB (by omega) | exact lm_arM (by omega)); omega)
    | ((with_reducible apply lm_sAl); (first | exact rfl | exact lm_arB (by omega) | exact lm_arM (by omega)); omega)
    | ((with_reducible apply lm_iW); decide))
  simp only [Nat.reduceDiv, Nat.reduceMod, h]
  exact lm_geF (by omega) (by omega) (by omega) (lm_wT hr)
/-! copy -/
theorem lm_u53 (hi : i < 8) (hj : j < 8) (h : m (26 + 2 * i) 1 = Int32.ofNat l) (hl : l ≤ 65536) : lm_cal sc (d + 2) 53 [.ref 0, .int (Int32.ofNat i), .int (Int32.ofNat j)] (lm_w m n x) = some (.ok (some (.int (Int32.ofNat l))), lm_w (lm_u (lm_cp m (27 + 2 * j) 0 (27 + 2 * i) 0 l) (26 + 2 * j) 1 (Int32.ofNat l)) n x) := by
  refine lm_cal_of (Y := lm_m53) rfl rfl (lm_e53_0 ?_)
  unfold lm_q53_0
  refine lm_cV (lm_t132n (i := i) (d := d) (n := 7) (by omega) (by omega)) ?_
  refine lm_cV (lm_t132n (i := j) (d := d) (n := 7) (by omega) (by omega)) ?_
  repeat (first
    | ((with_reducible apply lm_sI); exact rfl)
    | ((with_reducible apply lm_sR); exact rfl)
    | ((with_reducible apply lm_sS); exact rfl; exact rfl)
    | ((with_reducible apply lm_sL); exact rfl)
    | ((with_reducible apply lm_sP); exact rfl; exact rfl)
    | ((with_reducible apply lm_sPL); exact rfl; exact rfl)
    | ((with_reducible apply lm_sAA); exact rfl; first | exact rfl | exact lm_roO (by omega) | exact lm_roM (by omega))
    | ((with_reducible apply lm_sI); exact lm_fpL (by omega))
    | ((with_reducible apply lm_sR); exact lm_fpB (by omega))
    | ((with_reducible apply lm_sP); exact lm_fpL (by omega); exact rfl)
    | ((with_reducible apply lm_sS); exact lm_ocO (by omega); exact rfl)
    | ((with_reducible apply lm_sA); exact rfl; omega)
    | ((with_reducible apply lm_sJ); exact rfl; omega)
    | ((with_reducible apply lm_sB); (first | exact rfl | exact lm_arB (by omega) | exact lm_arM (by omega)); omega)
    | ((with_reducible apply lm_wA); exact rfl; omega)
    | ((with_reducible apply lm_wJ); exact rfl; omega)
    | ((with_reducible apply lm_wB); (first | exact rfl | exact lm_arB (by omega) | exact lm_arM (by omega)); omega)
    | ((with_reducible apply lm_sAl); (first | exact rfl | exact lm_arB (by omega) | exact lm_arM (by omega)); omega)
    | ((with_reducible apply lm_iW); decide))
  simp only [Nat.reduceDiv, Nat.reduceMod, h]
  refine lm_cV (lm_u133 (lm_fpB hj) (lm_fpL hj) (lm_arB hj) (lm_arB hi) (by omega) (by omega)) ?_
  repeat (first
    | ((with_reducible apply lm_sI); exact rfl)
    | ((with_reducible apply lm_sR); exact rfl)
    | ((with_reducible apply lm_sS); exact rfl; exact rfl)
    | ((with_reducible apply lm_sL); exact rfl)
    | ((with_reducible apply lm_sP); exact rfl; exact rfl)
    | ((with_reducible apply lm_sPL); exact rfl; exact rfl)
    | ((with_reducible apply lm_sAA); exact rfl; first | exact rfl | exact lm_roO (by omega) | exact lm_roM (by omega))
    | ((with_reducible apply lm_sI); exact lm_fpL (by omega))
    | ((with_reducible apply lm_sR); exact lm_fpB (by omega))
    | ((with_reducible apply lm_sP); exact lm_fpL (by omega); exact rfl)
    | ((with_reducible apply lm_sS); exact lm_ocO (by omega); exact rfl)
    | ((with_reducible apply lm_sA); exact rfl; omega)
    | ((with_reducible apply lm_sJ); exact rfl; omega)
    | ((with_reducible apply lm_sB); (first | exact rfl | exact lm_arB (by omega) | exact lm_arM (by omega)); omega)
    | ((with_reducible apply lm_wA); exact rfl; omega)
    | ((with_reducible apply lm_wJ); exact rfl; omega)
    | ((with_reducible apply lm_wB); (first | exact rfl | exact lm_arB (by omega) | exact lm_arM (by omega)); omega)
    | ((with_reducible apply lm_sAl); (first | exact rfl | exact lm_arB (by omega) | exact lm_arM (by omega)); omega)
    | ((with_reducible apply lm_iW); decide))
  simp only [Nat.reduceDiv, Nat.reduceMod, lm_u_eq]
  exact rfl
theorem lm_u53a (h : ¬ ((0 : Int32) ≤ v ∧ v ≤ Int32.ofNat 7)) (hr : lm_rom x) : lm_cal sc (d + 2) 53 [.ref 0, .int v, .int w] (lm_w m n x) = some (.error (lm_xp x), lm_w m n (lm_xx 13 x)) := by
  refine lm_cal_of (Y := lm_m53) rfl rfl (lm_e53_0 ?_)
  unfold lm_q53_0
  exact lm_cVe (lm_u132e (d := d) (k := 7) h hr)
theorem lm_u53b (hi : i < 8) (h : ¬ ((0 : Int32) ≤ w ∧ w ≤ Int32.ofNat 7)) (hr : lm_rom x) : lm_cal sc (d + 2) 53 [.ref 0, .int (Int32.ofNat i), .int w] (lm_w m n x) = some (.error (lm_xp x), lm_w m n (lm_xx 13 x)) := by
  refine lm_cal_of (Y := lm_m53) rfl rfl (lm_e53_0 ?_)
  unfold lm_q53_0
  refine lm_cV (lm_t132n (i := i) (d := d) (n := 7) (by omega) (by omega)) ?_
  exact lm_cVe (lm_u132e (d := d) (k := 7) h hr)
/-! Arrays.fill -/
theorem lm_u198 {k : Nat} (h1 : a ≤ c) (h2 : c ≤ k) (h3 : k ≤ 65536) {σ : lm_S} : lm_cal sc (d + 1) 198 [.int (Int32.ofNat k), .int (Int32.ofNat a), .int (Int32.ofNat c)] σ = some (.ok none, σ) := by
  refine lm_cal_of (Y := lm_m198) rfl rfl (lm_e198_0 ?_)
  unfold lm_q198_0
  refine lm_leT (by omega) (by omega) h1 ?_
  refine lm_iT (show (0 : Int32) ≤ Int32.ofNat a from (lm_in_range (i := a) (n := a) (by omega) (by omega)).1) ?_
  exact lm_leT (by omega) (by omega) h2 rfl
theorem lm_l134 {q k : Nat} (ht : lm_ar q = some (1, k)) (h1 : a ≤ c) (h2 : c ≤ k) : ∀ s t, a ≤ t → t + s = c → lm_rn sc d lm_m134.2.2.2.2.1 (lm_reg lm_m134.2.2.2.2.2) (10, [(0, .ref q), (2, .int (Int32.ofNat c)), (3, .int v), (4, .int (Int32.ofNat t))], []) (lm_w (lm_fil m q a t fun _ => v) n x) = some (.ok none, lm_w (lm_fil m q a c fun _ => v) n x) := by
  have hk := lm_ar_le ht
  intro s
  induction s with
  | zero =>
    intro t h3 h4
    have h4 : t = c := h4
    subst h4
    refine lm_e134_10 ?_
    unfold lm_q134_10
    refine lm_geT (by omega) (by omega) (by omega) ?_
    exact rfl
  | succ s ih =>
    intro t h3 h4
    refine lm_e134_10 ?_
    unfold lm_q134_10
    refine lm_geF (by omega) (by omega) (by omega) ?_
    simp only [lm_K1, lm_oo]
    refine lm_wB ht (by omega) ?_
    rw [show lm_u (lm_fil m q a t fun _ => v) q t v = _ from lm_fl_step (g := fun _ => v) h3]
    exact ih (t + 1) (by omega) (by omega)
theorem lm_u134 {q k : Nat} (ht : lm_ar q = some (1, k)) (h1 : a ≤ c) (h2 : c ≤ k) : lm_cal sc (d + 2) 134 [.ref q, .int (Int32.ofNat a), .int (Int32.ofNat c), .int v] (lm_w m n x) = some (.ok none, lm_w (lm_fil m q a c fun _ => v) n x) := by
  have hk := lm_ar_le ht
  refine lm_cal_of (Y := lm_m134) rfl rfl (lm_e134_0 ?_)
  unfold lm_q134_0
  refine lm_sAl ht (by omega) ?_
  refine lm_cV (lm_u198 h1 h2 hk) ?_
  have g := lm_l134 (sc := sc) (d := d + 1) (m := m) (n := n) (x := x) (v := v) ht h1 h2 (c - a) a (by omega) (by omega)
  rw [lm_fl_nil] at g
  exact g
/-! resize -/
theorem lm_u54 (hi : i < 8) (h : m (26 + 2 * i) 1 = Int32.ofNat l) (hc : c ≤ l) (hl : l ≤ 65536) : lm_cal sc (d + 3) 54 [.ref 0, .int (Int32.ofNat i), .int (Int32.ofNat c)] (lm_w m n x) = some (.ok (some (.int (Int32.ofNat l))), lm_w (lm_u m (26 + 2 * i) 1 (Int32.ofNat c)) n x) := by
  refine lm_cal_of (Y := lm_m54) rfl rfl (lm_e54_0 ?_)
  unfold lm_q54_0
  refine lm_cV (lm_t132n (i := i) (d := d + 1) (n := 7) (by omega) (by omega)) ?_
  refine lm_cV (lm_t132n (i := c) (d := d + 1) (n := 65536) (by omega) (by omega)) ?_
  repeat (first
    | ((with_reducible apply lm_sI); exact rfl)
    | ((with_reducible apply lm_sR); exact rfl)
    | ((with_reducible apply lm_sS); exact rfl; exact rfl)
    | ((with_reducible apply lm_sL); exact rfl)
    | ((with_reducible apply lm_sP); exact rfl; exact rfl)
    | ((with_reducible apply lm_sPL); exact rfl; exact rfl)
    | ((with_reducible apply lm_sAA); exact rfl; first | exact rfl | exact lm_roO (by omega) | exact lm_roM (by omega))
    | ((with_reducible apply lm_sI); exact lm_fpL (by omega))
    | ((with_reducible apply lm_sR); exact lm_fpB (by omega))
    | ((with_reducible apply lm_sP); exact lm_fpL (by omega); exact rfl)
    | ((with_reducible apply lm_sS); exact lm_ocO (by omega); exact rfl)
    | ((with_reducible apply lm_sA); exact rfl; omega)
    | ((with_reducible apply lm_sJ); exact rfl; omega)
    | ((with_reducible apply lm_sB); (first | exact rfl | exact lm_arB (by omega) | exact lm_arM (by omega)); omega)
    | ((with_reducible apply lm_wA); exact rfl; omega)
    | ((with_reducible apply lm_wJ); exact rfl; omega)
    | ((with_reducible apply lm_wB); (first | exact rfl | exact lm_arB (by omega) | exact lm_arM (by omega)); omega)
    | ((with_reducible apply lm_sAl); (first | exact rfl | exact lm_arB (by omega) | exact lm_arM (by omega)); omega)
    | ((with_reducible apply lm_iW); decide))
  simp only [Nat.reduceDiv, Nat.reduceMod, h]
  refine lm_leT (by omega) (by omega) (by omega) ?_
  refine lm_e54_44 ?_
  unfold lm_q54_44
  repeat (first
    | ((with_reducible apply lm_sI); exact rfl)
    | ((with_reducible apply lm_sR); exact rfl)
    | ((with_reducible apply lm_sS); exact rfl; exact rfl)
    | ((with_reducible apply lm_sL); exact rfl)
    | ((with_reducible apply lm_sP); exact rfl; exact rfl)
    | ((with_reducible apply lm_sPL); exact rfl; exact rfl)
    | ((with_reducible apply lm_sAA); exact rfl; first | exact rfl | exact lm_roO (by omega) | exact lm_roM (by omega))
    | ((with_reducible apply lm_sI); exact lm_fpL (by omega))
    | ((with_reducible apply lm_sR); exact lm_fpB (by omega))
    | ((with_reducible apply lm_sP); exact lm_fpL (by omega); exact rfl)
    | ((with_reducible apply lm_sS); exact lm_ocO (by omega); exact rfl)
    | ((with_reducible apply lm_sA); exact rfl; omega)
    | ((with_reducible apply lm_sJ); exact rfl; omega)
    | ((with_reducible apply lm_sB); (first | exact rfl | exact lm_arB (by omega) | exact lm_arM (by omega)); omega)
    | ((with_reducible apply lm_wA); exact rfl; omega)
    | ((with_reducible apply lm_wJ); exact rfl; omega)
    | ((with_reducible apply lm_wB); (first | exact rfl | exact lm_arB (by omega) | exact lm_arM (by omega)); omega)
    | ((with_reducible apply lm_sAl); (first | exact rfl | exact lm_arB (by omega) | exact lm_arM (by omega)); omega)
    | ((with_reducible apply lm_iW); decide))
  exact rfl
theorem lm_u54g (hi : i < 8) (h : m (26 + 2 * i) 1 = Int32.ofNat l) (hc : ¬ c ≤ l) (hl : c ≤ 65536) : lm_cal sc (d + 3) 54 [.ref 0, .int (Int32.ofNat i), .int (Int32.ofNat c)] (lm_w m n x) = some (.ok (some (.int (Int32.ofNat l))), lm_w (lm_u (lm_fil m (27 + 2 * i) l c fun _ => 0) (26 + 2 * i) 1 (Int32.ofNat c)) n x) := by
  refine lm_cal_of (Y := lm_m54) rfl rfl (lm_e54_0 ?_)
  unfold lm_q54_0
  refine lm_cV (lm_t132n (i := i) (d := d + 1) (n := 7) (by omega) (by omega)) ?_
  refine lm_cV (lm_t132n (i := c) (d := d + 1) (n := 65536) (by omega) (by omega)) ?_
  repeat (first
    | ((with_reducible apply lm_sI); exact rfl)
    | ((with_reducible apply lm_sR); exact rfl)
    | ((with_reducible apply lm_sS); exact rfl; exact rfl)
    | ((with_reducible apply lm_sL); exact rfl)
    | ((with_reducible apply lm_sP); exact rfl; exact rfl)
    | ((with_reducible apply lm_sPL); exact rfl; exact rfl)
    | ((with_reducible apply lm_sAA); exact rfl; first | exact rfl | exact lm_roO (by omega) | exact lm_roM (by omega))
    | ((with_reducible apply lm_sI); exact lm_fpL (by omega))
    | ((with_reducible apply lm_sR); exact lm_fpB (by omega))
    | ((with_reducible apply lm_sP); exact lm_fpL (by omega); exact rfl)
    | ((with_reducible apply lm_sS); exact lm_ocO (by omega); exact rfl)
    | ((with_reducible apply lm_sA); exact rfl; omega)
    | ((with_reducible apply lm_sJ); exact rfl; omega)
    | ((with_reducible apply lm_sB); (first | exact rfl | exact lm_arB (by omega) | exact lm_arM (by omega)); omega)
    | ((with_reducible apply lm_wA); exact rfl; omega)
    | ((with_reducible apply lm_wJ); exact rfl; omega)
    | ((with_reducible apply lm_wB); (first | exact rfl | exact lm_arB (by omega) | exact lm_arM (by omega)); omega)
    | ((with_reducible apply lm_sAl); (first | exact rfl | exact lm_arB (by omega) | exact lm_arM (by omega)); omega)
    | ((with_reducible apply lm_iW); decide))
  simp only [Nat.reduceDiv, Nat.reduceMod, h]
  refine lm_leF (by omega) (by omega) (by omega) ?_
  repeat (first
    | ((with_reducible apply lm_sI); exact rfl)
    | ((with_reducible apply lm_sR); exact rfl)
    | ((with_reducible apply lm_sS); exact rfl; exact rfl)
    | ((with_reducible apply lm_sL); exact rfl)
    | ((with_reducible apply lm_sP); exact rfl; exact rfl)
    | ((with_reducible apply lm_sPL); exact rfl; exact rfl)
    | ((with_reducible apply lm_sAA); exact rfl; first | exact rfl | exact lm_roO (by omega) | exact lm_roM (by omega))
    | ((with_reducible apply lm_sI); exact lm_fpL (by omega))
    | ((with_reducible apply lm_sR); exact lm_fpB (by omega))
    | ((with_reducible apply lm_sP); exact lm_fpL (by omega); exact rfl)
    | ((with_reducible apply lm_sS); exact lm_ocO (by omega); exact rfl)
    | ((with_reducible apply lm_sA); exact rfl; omega)
    | ((with_reducible apply lm_sJ); exact rfl; omega)
    | ((with_reducible apply lm_sB); (first | exact rfl | exact lm_arB (by omega) | exact lm_arM (by omega)); omega)
    | ((with_reducible apply lm_wA); exact rfl; omega)
    | ((with_reducible apply lm_wJ); exact rfl; omega)
    | ((with_reducible apply lm_wB); (first | exact rfl | exact lm_arB (by omega) | exact lm_arM (by omega)); omega)
    | ((with_reducible apply lm_sAl); (first | exact rfl | exact lm_arB (by omega) | exact lm_arM (by omega)); omega)
    | ((with_reducible apply lm_iW); decide))
  refine lm_cV (lm_u134 (d := d) (lm_arB hi) (by omega) (by omega)) ?_
  refine lm_e54_44 ?_
  unfold lm_q54_44
  repeat (first
    | ((with_reducible apply lm_sI); exact rfl)
    | ((with_reducible apply lm_sR); exact rfl)
    | ((with_reducible apply lm_sS); exact rfl; exact rfl)
    | ((with_reducible apply lm_sL); exact rfl)
    | ((with_reducible apply lm_sP); exact rfl; exact rfl)
    | ((with_reducible apply lm_sPL); exact rfl; exact rfl)
    | ((with_reducible apply lm_sAA); exact rfl; first | exact rfl | exact lm_roO (by omega) | exact lm_roM (by omega))
    | ((with_reducible apply lm_sI); exact lm_fpL (by omega))
    | ((with_reducible apply lm_sR); exact lm_fpB (by omega))
    | ((with_reducible apply lm_sP); exact lm_fpL (by omega); exact rfl)
    | ((with_reducible apply lm_sS); exact lm_ocO (by omega); exact rfl)
    | ((with_reducible apply lm_sA); exact rfl; omega)
    | ((with_reducible apply lm_sJ); exact rfl; omega)
    | ((with_reducible apply lm_sB); (first | exact rfl | exact lm_arB (by omega) | exact lm_arM (by omega)); omega)
    | ((with_reducible apply lm_wA); exact rfl; omega)
    | ((with_reducible apply lm_wJ); exact rfl; omega)
    | ((with_reducible apply lm_wB); (first | exact rfl | exact lm_arB (by omega) | exact lm_arM (by omega)); omega)
    | ((with_reducible apply lm_sAl); (first | exact rfl | exact lm_arB (by omega) | exact lm_arM (by omega)); omega)
    | ((with_reducible apply lm_iW); decide))
  exact rfl
theorem lm_u54a (h : ¬ ((0 : Int32) ≤ v ∧ v ≤ Int32.ofNat 7)) (hr : lm_rom x) : lm_cal sc (d + 3) 54 [.ref 0, .int v, .int w] (lm_w m n x) = some (.error (lm_xp x), lm_w m n (lm_xx 13 x)) := by
  refine lm_cal_of (Y := lm_m54) rfl rfl (lm_e54_0 ?_)
  unfold lm_q54_0
  exact lm_cVe (lm_u132e (d := d + 1) (k := 7) h hr)
theorem lm_u54b (hi : i < 8) (h : ¬ ((0 : Int32) ≤ w ∧ w ≤ Int32.ofNat 65536)) (hr : lm_rom x) : lm_cal sc (d + 3) 54 [.ref 0, .int (Int32.ofNat i), .int w] (lm_w m n x) = some (.error (lm_xp x), lm_w m n (lm_xx 13 x)) := by
  refine lm_cal_of (Y := lm_m54) rfl rfl (lm_e54_0 ?_)
  unfold lm_q54_0
  refine lm_cV (lm_t132n (i := i) (d := d + 1) (n := 7) (by omega) (by omega)) ?_
  exact lm_cVe (lm_u132e (d := d + 1) (k := 65536) h hr)
end LMC3
