/-! ===== the calls of Slh on a fresh object ===== -/
section LMSR
variable {sc : lm_H} {xs : List Int32} {d s l : Nat} {m m1 : lm_MI} {n : lm_ML} {x : lm_H × Nat × Nat} {v w p q u : Int32}
theorem lm_sn_b : 16 ≤ lm_sn s ∧ lm_sn s ≤ 32 := by
  have h := lm_tbq (s % 6) (Nat.mod_lt _ (by decide))
  exact ⟨h.2.2.2.2.2.1, h.2.2.2.2.1⟩
theorem lm_sd_b : 1 ≤ lm_sd s ∧ lm_sd s ≤ 22 := by
  have h := lm_tbq (s % 6) (Nat.mod_lt _ (by decide))
  exact ⟨h.2.1, h.2.2.1⟩
theorem lm_sh_b : lm_sh s ≤ 9 := by
  have h := lm_tbq (s % 6) (Nat.mod_lt _ (by decide))
  exact h.2.2.2.2.2.2
/-- behind both choices the tie is there -/
theorem lm_Tie.slh {m2 m3 : lm_MI} {k : Int32} (h : lm_Tie m) (h1 : lm_PS m s m1) (h2 : lm_PM (lm_u m1 203 4 0) s m2) (h3 : m3 = lm_u m2 203 4 k) : lm_Tie m3 ∧ lm_kp m n m3 n := by
  have er : ∀ q, q ≠ 44 → q ≠ 76 → q ≠ 194 → q ≠ 195 → q ≠ 203 → q ≠ 231 → q ≠ 268 → q ≠ 333 → m3 q = m q := fun q a1 a2 a3 a4 a5 a6 a7 a8 => by rw [h3, lm_u_row a5, h2.2.2.2.2 q a5 a8, lm_u_row a5, h1.2.2.2 q a3 a4]
  refine ⟨h.rows er ?_, lm_kpr er⟩
  rw [h3, lm_u_ne (by decide), h2.2.2.2.1 3 (by decide), lm_u_ne (by decide), h1.2.2.2 203 (by decide) (by decide)]
/-! keys -/
theorem lm_u106a (h : ¬ ((0 : Int32) ≤ v ∧ v ≤ Int32.ofNat 11)) (hr : lm_rom x) : lm_cal sc (d + 3) 106 [.ref 0, .int v] (lm_w m n x) = some (.error (lm_xp x), lm_w m n (lm_xx 13 x)) := by
  refine lm_cal_of (Y := lm_m106) rfl rfl (lm_e106_0 ?_)
  unfold lm_q106_0
  exact lm_cVe (lm_u132e (d := d + 1) (k := 11) h hr)
theorem lm_u106b (hf : lm_Fre m) (hs : s ≤ 11) (hr : lm_rom x) : ∃ m1, lm_PS m s m1 ∧ lm_cal (lm_sc xs) (d + 3) 106 [.ref 0, .int (Int32.ofNat s)] (lm_w m n x) = some (.error (lm_xp x), lm_w m1 n (lm_xx 14 x)) := by
  obtain ⟨m1, e, f⟩ := lm_u176 (xs := xs) (d := d) (m := m) (n := n) (x := x) hs
  refine ⟨m1, f, ?_⟩
  have hb := lm_sn_b (s := s)
  have h0 : m1 26 1 = Int32.ofNat 0 := by rw [f.2.2.2 26 (by decide) (by decide)]; exact (hf.2.2 0 (by omega)).1
  refine lm_cal_of (Y := lm_m106) rfl rfl (lm_e106_0 ?_)
  unfold lm_q106_0
  refine lm_cV (lm_t132n (i := s) (d := d + 1) (n := 11) hs (by omega)) ?_
  repeat (first
    | ((with_reducible apply lm_sI); exact rfl)
    | ((with_reducible apply lm_sR); exact rfl)
    | ((with_reducible apply lm_sS); exact rfl; exact rfl)
    | ((with_reducible apply lm_sL); exact rfl)
    | ((with_reducible apply lm_sP); exact rfl; exact rfl)
    | ((with_reducible apply lm_sPL); exact rfl; exact rfl)
    | ((with_reducible apply lm_sAA); exact rfl; first | exact rfl | exact lm_roO (by omega) | exact lm_roM (by omega))
    | ((with_reducible apply lm_sI); exact lm_fpL (by omega))
    | ((with_reducible apply lm_sR); exact lm_fpB (by omega))
    | ((with_reducible apply lm_sP); exact lm_fpL (by omega); exact rfl)
    | ((with_reducible apply lm_sS); exact lm_ocO (by omega); exact rfl)
    | ((with_reducible apply lm_sA); exact rfl; omega)
    | ((with_reducible apply lm_sJ); exact rfl; omega)
    | ((with_reducible apply lm_sB); (first | exact rfl | exact lm_arB (by omega) | exact lm_arM (by omega)); omega)
    | ((with_reducible apply lm_wA); exact rfl; omega)
    | ((with_reducible apply lm_wJ); exact rfl; omega)
    | ((with_reducible apply lm_wB); (first | exact rfl | exact lm_arB (by omega) | exact lm_arM (by omega)); omega)
    | ((with_reducible apply lm_sAl); (first | exact rfl | exact lm_arB (by omega) | exact lm_arM (by omega)); omega)
    | ((with_reducible apply lm_iW); decide))
  refine lm_cV e ?_
  rw [lm_K0, lm_K3]
  repeat (first
    | ((with_reducible apply lm_sI); exact rfl)
    | ((with_reducible apply lm_sR); exact rfl)
    | ((with_reducible apply lm_sS); exact rfl; exact rfl)
    | ((with_reducible apply lm_sL); exact rfl)
    | ((with_reducible apply lm_sP); exact rfl; exact rfl)
    | ((with_reducible apply lm_sPL); exact rfl; exact rfl)
    | ((with_reducible apply lm_sAA); exact rfl; first | exact rfl | exact lm_roO (by omega) | exact lm_roM (by omega))
    | ((with_reducible apply lm_sI); exact lm_fpL (by omega))
    | ((with_reducible apply lm_sR); exact lm_fpB (by omega))
    | ((with_reducible apply lm_sP); exact lm_fpL (by omega); exact rfl)
    | ((with_reducible apply lm_sS); exact lm_ocO (by omega); exact rfl)
    | ((with_reducible apply lm_sA); exact rfl; omega)
    | ((with_reducible apply lm_sJ); exact rfl; omega)
    | ((with_reducible apply lm_sB); (first | exact rfl | exact lm_arB (by omega) | exact lm_arM (by omega)); omega)
    | ((with_reducible apply lm_wA); exact rfl; omega)
    | ((with_reducible apply lm_wJ); exact rfl; omega)
    | ((with_reducible apply lm_wB); (first | exact rfl | exact lm_arB (by omega) | exact lm_arM (by omega)); omega)
    | ((with_reducible apply lm_sAl); (first | exact rfl | exact lm_arB (by omega) | exact lm_arM (by omega)); omega)
    | ((with_reducible apply lm_iW); decide))
  simp only [Nat.reduceDiv, Nat.reduceMod, h0, f.1, lm_om]
  refine lm_neT (by decide) (by omega) (by omega) ?_
  refine lm_e106_41 ?_
  unfold lm_q106_41
  exact lm_cVe (lm_u150e (d := d + 1) hr)
theorem lm_u34a (h : ¬ ((0 : Int32) ≤ v ∧ v ≤ Int32.ofNat 11)) : lm_cal sc (d + 2) 34 [.ref 203, .int v] (lm_w m n x) = some (.ok (some (.int 0)), lm_w (lm_u m 203 4 1) n x) := by
  refine lm_cal_of (Y := lm_m34) rfl rfl (lm_e34_0 ?_)
  unfold lm_q34_0
  refine lm_cI (lm_t52f (d := d) h) ?_
  repeat (first
    | ((with_reducible apply lm_sI); exact rfl)
    | ((with_reducible apply lm_sR); exact rfl)
    | ((with_reducible apply lm_sS); exact rfl; exact rfl)
    | ((with_reducible apply lm_sL); exact rfl)
    | ((with_reducible apply lm_sP); exact rfl; exact rfl)
    | ((with_reducible apply lm_sPL); exact rfl; exact rfl)
    | ((with_reducible apply lm_sAA); exact rfl; first | exact rfl | exact lm_roO (by omega) | exact lm_roM (by omega))
    | ((with_reducible apply lm_sI); exact lm_fpL (by omega))
    | ((with_reducible apply lm_sR); exact lm_fpB (by omega))
    | ((with_reducible apply lm_sP); exact lm_fpL (by omega); exact rfl)
    | ((with_reducible apply lm_sS); exact lm_ocO (by omega); exact rfl)
    | ((with_reducible apply lm_sA); exact rfl; omega)
    | ((with_reducible apply lm_sJ); exact rfl; omega)
    | ((with_reducible apply lm_sB); (first | exact rfl | exact lm_arB (by omega) | exact lm_arM (by omega)); omega)
    | ((with_reducible apply lm_wA); exact rfl; omega)
    | ((with_reducible apply lm_wJ); exact rfl; omega)
    | ((with_reducible apply lm_wB); (first | exact rfl | exact lm_arB (by omega) | exact lm_arM (by omega)); omega)
    | ((with_reducible apply lm_sAl); (first | exact rfl | exact lm_arB (by omega) | exact lm_arM (by omega)); omega)
    | ((with_reducible apply lm_iW); decide))
  refine lm_cI (lm_u49 (d := d) false) ?_
  refine lm_iF (show ¬ ¬ (0 : Int32) = 0 by decide) ?_
  exact rfl
theorem lm_u34b (hf : ∀ i, i < 8 → m 214 i = Int32.ofNat 0) (hs : s ≤ 11) : ∃ m2, lm_PM (lm_u m 203 4 0) s m2 ∧ lm_cal sc (d + 2) 34 [.ref 203, .int (Int32.ofNat s)] (lm_w m n x) = some (.ok (some (.int 0)), lm_w (lm_u m2 203 4 2) n x) := by
  obtain ⟨m2, e, f⟩ := lm_u107 (sc := sc) (d := d) (m := lm_u m 203 4 0) (n := n) (x := x) hs
  refine ⟨m2, f, ?_⟩
  have hb := lm_sn_b (s := s)
  have g : ∀ i, i < 8 → m2 214 i = Int32.ofNat 0 := fun i hi => by rw [f.2.2.2.2 214 (by decide) (by decide), lm_u_row (by decide)]; exact hf i hi
  refine lm_cal_of (Y := lm_m34) rfl rfl (lm_e34_0 ?_)
  unfold lm_q34_0
  refine lm_cI (lm_t52n (i := s) (d := d) (n := 11) hs (by omega)) ?_
  repeat (first
    | ((with_reducible apply lm_sI); exact rfl)
    | ((with_reducible apply lm_sR); exact rfl)
    | ((with_reducible apply lm_sS); exact rfl; exact rfl)
    | ((with_reducible apply lm_sL); exact rfl)
    | ((with_reducible apply lm_sP); exact rfl; exact rfl)
    | ((with_reducible apply lm_sPL); exact rfl; exact rfl)
    | ((with_reducible apply lm_sAA); exact rfl; first | exact rfl | exact lm_roO (by omega) | exact lm_roM (by omega))
    | ((with_reducible apply lm_sI); exact lm_fpL (by omega))
    | ((with_reducible apply lm_sR); exact lm_fpB (by omega))
    | ((with_reducible apply lm_sP); exact lm_fpL (by omega); exact rfl)
    | ((with_reducible apply lm_sS); exact lm_ocO (by omega); exact rfl)
    | ((with_reducible apply lm_sA); exact rfl; omega)
    | ((with_reducible apply lm_sJ); exact rfl; omega)
    | ((with_reducible apply lm_sB); (first | exact rfl | exact lm_arB (by omega) | exact lm_arM (by omega)); omega)
    | ((with_reducible apply lm_wA); exact rfl; omega)
    | ((with_reducible apply lm_wJ); exact rfl; omega)
    | ((with_reducible apply lm_wB); (first | exact rfl | exact lm_arB (by omega) | exact lm_arM (by omega)); omega)
    | ((with_reducible apply lm_sAl); (first | exact rfl | exact lm_arB (by omega) | exact lm_arM (by omega)); omega)
    | ((with_reducible apply lm_iW); decide))
  refine lm_cI (lm_u49 (d := d) true) ?_
  refine lm_iT (show ¬ (1 : Int32) = 0 by decide) ?_
  repeat (first
    | ((with_reducible apply lm_sI); exact rfl)
    | ((with_reducible apply lm_sR); exact rfl)
    | ((with_reducible apply lm_sS); exact rfl; exact rfl)
    | ((with_reducible apply lm_sL); exact rfl)
    | ((with_reducible apply lm_sP); exact rfl; exact rfl)
    | ((with_reducible apply lm_sPL); exact rfl; exact rfl)
    | ((with_reducible apply lm_sAA); exact rfl; first | exact rfl | exact lm_roO (by omega) | exact lm_roM (by omega))
    | ((with_reducible apply lm_sI); exact lm_fpL (by omega))
    | ((with_reducible apply lm_sR); exact lm_fpB (by omega))
    | ((with_reducible apply lm_sP); exact lm_fpL (by omega); exact rfl)
    | ((with_reducible apply lm_sS); exact lm_ocO (by omega); exact rfl)
    | ((with_reducible apply lm_sA); exact rfl; omega)
    | ((with_reducible apply lm_sJ); exact rfl; omega)
    | ((with_reducible apply lm_sB); (first | exact rfl | exact lm_arB (by omega) | exact lm_arM (by omega)); omega)
    | ((with_reducible apply lm_wA); exact rfl; omega)
    | ((with_reducible apply lm_wJ); exact rfl; omega)
    | ((with_reducible apply lm_wB); (first | exact rfl | exact lm_arB (by omega) | exact lm_arM (by omega)); omega)
    | ((with_reducible apply lm_sAl); (first | exact rfl | exact lm_arB (by omega) | exact lm_arM (by omega)); omega)
    | ((with_reducible apply lm_iW); decide))
  refine lm_cV e ?_
  rw [lm_K0, lm_K3]
  repeat (first
    | ((with_reducible apply lm_sI); exact rfl)
    | ((with_reducible apply lm_sR); exact rfl)
    | ((with_reducible apply lm_sS); exact rfl; exact rfl)
    | ((with_reducible apply lm_sL); exact rfl)
    | ((with_reducible apply lm_sP); exact rfl; exact rfl)
    | ((with_reducible apply lm_sPL); exact rfl; exact rfl)
    | ((with_reducible apply lm_sAA); exact rfl; first | exact rfl | exact lm_roO (by omega) | exact lm_roM (by omega))
    | ((with_reducible apply lm_sI); exact lm_fpL (by omega))
    | ((with_reducible apply lm_sR); exact lm_fpB (by omega))
    | ((with_reducible apply lm_sP); exact lm_fpL (by omega); exact rfl)
    | ((with_reducible apply lm_sS); exact lm_ocO (by omega); exact rfl)
    | ((with_reducible apply lm_sA); exact rfl; omega)
    | ((with_reducible apply lm_sJ); exact rfl; omega)
    | ((with_reducible apply lm_sB); (first | exact rfl | exact lm_arB (by omega) | exact lm_arM (by omega)); omega)
    | ((with_reducible apply lm_wA); exact rfl; omega)
    | ((with_reducible apply lm_wJ); exact rfl; omega)
    | ((with_reducible apply lm_wB); (first | exact rfl | exact lm_arB (by omega) | exact lm_arM (by omega)); omega)
    | ((with_reducible apply lm_sAl); (first | exact rfl | exact lm_arB (by omega) | exact lm_arM (by omega)); omega)
    | ((with_reducible apply lm_iW); decide))
  simp only [Nat.reduceDiv, Nat.reduceMod, f.1, lm_om]
  rw [g 0 (by omega)]
  refine lm_neT (by decide) (by omega) (by omega) ?_
  refine lm_e34_43 ?_
  unfold lm_q34_43
  repeat (first
    | ((with_reducible apply lm_sI); exact rfl)
    | ((with_reducible apply lm_sR); exact rfl)
    | ((with_reducible apply lm_sS); exact rfl; exact rfl)
    | ((with_reducible apply lm_sL); exact rfl)
    | ((with_reducible apply lm_sP); exact rfl; exact rfl)
    | ((with_reducible apply lm_sPL); exact rfl; exact rfl)
    | ((with_reducible apply lm_sAA); exact rfl; first | exact rfl | exact lm_roO (by omega) | exact lm_roM (by omega))
    | ((with_reducible apply lm_sI); exact lm_fpL (by omega))
    | ((with_reducible apply lm_sR); exact lm_fpB (by omega))
    | ((with_reducible apply lm_sP); exact lm_fpL (by omega); exact rfl)
    | ((with_reducible apply lm_sS); exact lm_ocO (by omega); exact rfl)
    | ((with_reducible apply lm_sA); exact rfl; omega)
    | ((with_reducible apply lm_sJ); exact rfl; omega)
    | ((with_reducible apply lm_sB); (first | exact rfl | exact lm_arB (by omega) | exact lm_arM (by omega)); omega)
    | ((with_reducible apply lm_wA); exact rfl; omega)
    | ((with_reducible apply lm_wJ); exact rfl; omega)
    | ((with_reducible apply lm_wB); (first | exact rfl | exact lm_arB (by omega) | exact lm_arM (by omega)); omega)
    | ((with_reducible apply lm_sAl); (first | exact rfl | exact lm_arB (by omega) | exact lm_arM (by omega)); omega)
    | ((with_reducible apply lm_iW); decide))
  refine lm_cI (lm_u49 (d := d) false) ?_
  refine lm_iF (show ¬ ¬ (0 : Int32) = 0 by decide) ?_
  exact rfl
theorem lm_st15f (h : lm_Fre m) : lm_Stp (lm_sc xs) 33 34 [.int v] m n x := by
  intro r hr
  have hx := lm_rm_room hr
  rcases lm_range v (n := 11) (by omega) with ⟨s, hs, e⟩ | e
  · subst e
    obtain ⟨m1, f1, c1⟩ := lm_u106b (xs := xs) (d := 596) (n := n) h hs hx
    obtain ⟨m2, f2, c2⟩ := lm_u34b (sc := lm_sc xs) (d := 598) (m := m1) (n := n) (x := lm_xx 14 x) (s := s) (fun i hi => by rw [f1.2.2.2 214 (by decide) (by decide)]; exact (h.2.2 i hi).2) hs
    obtain ⟨t1, t2⟩ := h.tie.slh (n := n) f1 f2 rfl
    exact ⟨2, 0, _, _, _, _, _, lm_v33_14 hx c1, c2, lm_u_eq, fun h => absurd h (by decide), t1, t2, lm_rm_xx hr⟩
  · exact ⟨1, 0, _, _, _, _, _, lm_v33_13 hx (lm_u106a (d := 596) e hx), lm_u34a (d := 598) e, lm_u_eq, fun h => absurd h (by decide), h.tie.cod, lm_kpc, lm_rm_xx hr⟩
/-! sign -/
theorem lm_u110a (h : ¬ ((0 : Int32) ≤ v ∧ v ≤ Int32.ofNat 11)) (hr : lm_rom x) : lm_cal sc (d + 3) 110 [.ref 0, .int v, .int w] (lm_w m n x) = some (.error (lm_xp x), lm_w m n (lm_xx 13 x)) := by
  refine lm_cal_of (Y := lm_m110) rfl rfl (lm_e110_0 ?_)
  unfold lm_q110_0
  exact lm_cVe (lm_u132e (d := d + 1) (k := 11) h hr)
theorem lm_u110b (hs : s ≤ 11) (h : ¬ (Int32.ofInt (-1) ≤ w ∧ w ≤ Int32.ofInt 12)) (hr : lm_rom x) : lm_cal sc (d + 3) 110 [.ref 0, .int (Int32.ofNat s), .int w] (lm_w m n x) = some (.error (lm_xp x), lm_w m n (lm_xx 13 x)) := by
  refine lm_cal_of (Y := lm_m110) rfl rfl (lm_e110_0 ?_)
  unfold lm_q110_0
  refine lm_cV (lm_t132n (i := s) (d := d + 1) (n := 11) hs (by omega)) ?_
  exact lm_cVe (lm_u132g (d := d + 1) h hr)
theorem lm_u110c (hf : lm_Fre m) (hs : s ≤ 11) (h : Int32.ofInt (-1) ≤ w ∧ w ≤ Int32.ofInt 12) (hr : lm_rom x) : ∃ m1, lm_PS m s m1 ∧ lm_cal (lm_sc xs) (d + 3) 110 [.ref 0, .int (Int32.ofNat s), .int w] (lm_w m n x) = some (.error (lm_xp x), lm_w m1 n (lm_xx 16 x)) := by
  obtain ⟨m1, e, f⟩ := lm_u176 (xs := xs) (d := d) (m := m) (n := n) (x := x) hs
  refine ⟨m1, f, ?_⟩
  have hb := lm_sn_b (s := s)
  have h0 : m1 26 1 = Int32.ofNat 0 := by rw [f.2.2.2 26 (by decide) (by decide)]; exact (hf.2.2 0 (by omega)).1
  have h2 : m1 30 1 = Int32.ofNat 0 := by rw [f.2.2.2 30 (by decide) (by decide)]; exact (hf.2.2 2 (by omega)).1
  have h4 : m1 34 1 = Int32.ofNat 0 := by rw [f.2.2.2 34 (by decide) (by decide)]; exact (hf.2.2 4 (by omega)).1
  refine lm_cal_of (Y := lm_m110) rfl rfl (lm_e110_0 ?_)
  unfold lm_q110_0
  refine lm_cV (lm_t132n (i := s) (d := d + 1) (n := 11) hs (by omega)) ?_
  refine lm_cV (lm_t132 (d := d + 1) h.1 h.2) ?_
  repeat (first
    | ((with_reducible apply lm_sI); exact rfl)
    | ((with_reducible apply lm_sR); exact rfl)
    | ((with_reducible apply lm_sS); exact rfl; exact rfl)
    | ((with_reducible apply lm_sL); exact rfl)
    | ((with_reducible apply lm_sP); exact rfl; exact rfl)
    | ((with_reducible apply lm_sPL); exact rfl; exact rfl)
    | ((with_reducible apply lm_sAA); exact rfl; first | exact rfl | exact lm_roO (by omega) | exact lm_roM (by omega))
    | ((with_reducible apply lm_sI); exact lm_fpL (by omega))
    | ((with_reducible apply lm_sR); exact lm_fpB (by omega))
    | ((with_reducible apply lm_sP); exact lm_fpL (by omega); exact rfl)
    | ((with_reducible apply lm_sS); exact lm_ocO (by omega); exact rfl)
    | ((with_reducible apply lm_sA); exact rfl; omega)
    | ((with_reducible apply lm_sJ); exact rfl; omega)
    | ((with_reducible apply lm_sB); (first | exact rfl | exact lm_arB (by omega) | exact lm_arM (by omega)); omega)
    | ((with_reducible apply lm_wA); exact rfl; omega)
    | ((with_reducible apply lm_wJ); exact rfl; omega)
    | ((with_reducible apply lm_wB); (first | exact rfl | exact lm_arB (by omega) | exact lm_arM (by omega)); omega)
    | ((with_reducible apply lm_sAl); (first | exact rfl | exact lm_arB (by omega) | exact lm_arM (by omega)); omega)
    | ((with_reducible apply lm_iW); decide))
  refine lm_cV e ?_
  repeat (first
    | ((with_reducible apply lm_sI); exact rfl)
    | ((with_reducible apply lm_sR); exact rfl)
    | ((with_reducible apply lm_sS); exact rfl; exact rfl)
    | ((with_reducible apply lm_sL); exact rfl)
    | ((with_reducible apply lm_sP); exact rfl; exact rfl)
    | ((with_reducible apply lm_sPL); exact rfl; exact rfl)
    | ((with_reducible apply lm_sAA); exact rfl; first | exact rfl | exact lm_roO (by omega) | exact lm_roM (by omega))
    | ((with_reducible apply lm_sI); exact lm_fpL (by omega))
    | ((with_reducible apply lm_sR); exact lm_fpB (by omega))
    | ((with_reducible apply lm_sP); exact lm_fpL (by omega); exact rfl)
    | ((with_reducible apply lm_sS); exact lm_ocO (by omega); exact rfl)
    | ((with_reducible apply lm_sA); exact rfl; omega)
    | ((with_reducible apply lm_sJ); exact rfl; omega)
    | ((with_reducible apply lm_sB); (first | exact rfl | exact lm_arB (by omega) | exact lm_arM (by omega)); omega)
    | ((with_reducible apply lm_wA); exact rfl; omega)
    | ((with_reducible apply lm_wJ); exact rfl; omega)
    | ((with_reducible apply lm_wB); (first | exact rfl | exact lm_arB (by omega) | exact lm_arM (by omega)); omega)
    | ((with_reducible apply lm_sAl); (first | exact rfl | exact lm_arB (by omega) | exact lm_arM (by omega)); omega)
    | ((with_reducible apply lm_iW); decide))
  refine lm_cI (lm_u168 (d := d + 1) h4) ?_
  refine lm_cV (lm_u150 (d := d + 1)) ?_
  rw [lm_K0]
  repeat (first
    | ((with_reducible apply lm_sI); exact rfl)
    | ((with_reducible apply lm_sR); exact rfl)
    | ((with_reducible apply lm_sS); exact rfl; exact rfl)
    | ((with_reducible apply lm_sL); exact rfl)
    | ((with_reducible apply lm_sP); exact rfl; exact rfl)
    | ((with_reducible apply lm_sPL); exact rfl; exact rfl)
    | ((with_reducible apply lm_sAA); exact rfl; first | exact rfl | exact lm_roO (by omega) | exact lm_roM (by omega))
    | ((with_reducible apply lm_sI); exact lm_fpL (by omega))
    | ((with_reducible apply lm_sR); exact lm_fpB (by omega))
    | ((with_reducible apply lm_sP); exact lm_fpL (by omega); exact rfl)
    | ((with_reducible apply lm_sS); exact lm_ocO (by omega); exact rfl)
    | ((with_reducible apply lm_sA); exact rfl; omega)
    | ((with_reducible apply lm_sJ); exact rfl; omega)
    | ((with_reducible apply lm_sB); (first | exact rfl | exact lm_arB (by omega) | exact lm_arM (by omega)); omega)
    | ((with_reducible apply lm_wA); exact rfl; omega)
    | ((with_reducible apply lm_wJ); exact rfl; omega)
    | ((with_reducible apply lm_wB); (first | exact rfl | exact lm_arB (by omega) | exact lm_arM (by omega)); omega)
    | ((with_reducible apply lm_sAl); (first | exact rfl | exact lm_arB (by omega) | exact lm_arM (by omega)); omega)
    | ((with_reducible apply lm_iW); decide))
  simp only [Nat.reduceDiv, Nat.reduceMod, h0, f.1]
  refine lm_eqF (by decide) (by omega) (by omega) ?_
  repeat (first
    | ((with_reducible apply lm_sI); exact rfl)
    | ((with_reducible apply lm_sR); exact rfl)
    | ((with_reducible apply lm_sS); exact rfl; exact rfl)
    | ((with_reducible apply lm_sL); exact rfl)
    | ((with_reducible apply lm_sP); exact rfl; exact rfl)
    | ((with_reducible apply lm_sPL); exact rfl; exact rfl)
    | ((with_reducible apply lm_sAA); exact rfl; first | exact rfl | exact lm_roO (by omega) | exact lm_roM (by omega))
    | ((with_reducible apply lm_sI); exact lm_fpL (by omega))
    | ((with_reducible apply lm_sR); exact lm_fpB (by omega))
    | ((with_reducible apply lm_sP); exact lm_fpL (by omega); exact rfl)
    | ((with_reducible apply lm_sS); exact lm_ocO (by omega); exact rfl)
    | ((with_reducible apply lm_sA); exact rfl; omega)
    | ((with_reducible apply lm_sJ); exact rfl; omega)
    | ((with_reducible apply lm_sB); (first | exact rfl | exact lm_arB (by omega) | exact lm_arM (by omega)); omega)
    | ((with_reducible apply lm_wA); exact rfl; omega)
    | ((with_reducible apply lm_wJ); exact rfl; omega)
    | ((with_reducible apply lm_wB); (first | exact rfl | exact lm_arB (by omega) | exact lm_arM (by omega)); omega)
    | ((with_reducible apply lm_sAl); (first | exact rfl | exact lm_arB (by omega) | exact lm_arM (by omega)); omega)
    | ((with_reducible apply lm_iW); decide))
  simp only [Nat.reduceDiv, Nat.reduceMod, h0]
  refine lm_iF (show ¬ ¬ Int32.ofNat 0 = 0 by decide) ?_
  refine lm_e110_64 ?_
  unfold lm_q110_64
  refine lm_e110_69 ?_
  unfold lm_q110_69
  refine lm_cV (lm_u150 (d := d + 1)) ?_
  rw [lm_K2, lm_K4]
  repeat (first
    | ((with_reducible apply lm_sI); exact rfl)
    | ((with_reducible apply lm_sR); exact rfl)
    | ((with_reducible apply lm_sS); exact rfl; exact rfl)
    | ((with_reducible apply lm_sL); exact rfl)
    | ((with_reducible apply lm_sP); exact rfl; exact rfl)
    | ((with_reducible apply lm_sPL); exact rfl; exact rfl)
    | ((with_reducible apply lm_sAA); exact rfl; first | exact rfl | exact lm_roO (by omega) | exact lm_roM (by omega))
    | ((with_reducible apply lm_sI); exact lm_fpL (by omega))
    | ((with_reducible apply lm_sR); exact lm_fpB (by omega))
    | ((with_reducible apply lm_sP); exact lm_fpL (by omega); exact rfl)
    | ((with_reducible apply lm_sS); exact lm_ocO (by omega); exact rfl)
    | ((with_reducible apply lm_sA); exact rfl; omega)
    | ((with_reducible apply lm_sJ); exact rfl; omega)
    | ((with_reducible apply lm_sB); (first | exact rfl | exact lm_arB (by omega) | exact lm_arM (by omega)); omega)
    | ((with_reducible apply lm_wA); exact rfl; omega)
    | ((with_reducible apply lm_wJ); exact rfl; omega)
    | ((with_reducible apply lm_wB); (first | exact rfl | exact lm_arB (by omega) | exact lm_arM (by omega)); omega)
    | ((with_reducible apply lm_sAl); (first | exact rfl | exact lm_arB (by omega) | exact lm_arM (by omega)); omega)
    | ((with_reducible apply lm_iW); decide))
  simp only [Nat.reduceDiv, Nat.reduceMod, h2, f.1, lm_om]
  refine lm_neT (by decide) (by omega) (by omega) ?_
  refine lm_e110_98 ?_
  unfold lm_q110_98
  exact lm_cVe (lm_u160e (d := d + 1) hr)
theorem lm_u36a (h : ¬ ((0 : Int32) ≤ v ∧ v ≤ Int32.ofNat 11)) : lm_cal sc (d + 2) 36 [.ref 203, .int v, .int w] (lm_w m n x) = some (.ok (some (.int 0)), lm_w (lm_u m 203 4 1) n x) := by
  refine lm_cal_of (Y := lm_m36) rfl rfl (lm_e36_0 ?_)
  unfold lm_q36_0
  refine lm_cI (lm_t52f (d := d) h) ?_
  refine lm_iT (show (0 : Int32) = 0 by decide) ?_
  refine lm_e36_25 ?_
  unfold lm_q36_25
  refine lm_e36_26 ?_
  unfold lm_q36_26
  repeat (first
    | ((with_reducible apply lm_sI); exact rfl)
    | ((with_reducible apply lm_sR); exact rfl)
    | ((with_reducible apply lm_sS); exact rfl; exact rfl)
    | ((with_reducible apply lm_sL); exact rfl)
    | ((with_reducible apply lm_sP); exact rfl; exact rfl)
    | ((with_reducible apply lm_sPL); exact rfl; exact rfl)
    | ((with_reducible apply lm_sAA); exact rfl; first | exact rfl | exact lm_roO (by omega) | exact lm_roM (by omega))
    | ((with_reducible apply lm_sI); exact lm_fpL (by omega))
    | ((with_reducible apply lm_sR); exact lm_fpB (by omega))
    | ((with_reducible apply lm_sP); exact lm_fpL (by omega); exact rfl)
    | ((with_reducible apply lm_sS); exact lm_ocO (by omega); exact rfl)
    | ((with_reducible apply lm_sA); exact rfl; omega)
    | ((with_reducible apply lm_sJ); exact rfl; omega)
    | ((with_reducible apply lm_sB); (first | exact rfl | exact lm_arB (by omega) | exact lm_arM (by omega)); omega)
    | ((with_reducible apply lm_wA); exact rfl; omega)
    | ((with_reducible apply lm_wJ); exact rfl; omega)
    | ((with_reducible apply lm_wB); (first | exact rfl | exact lm_arB (by omega) | exact lm_arM (by omega)); omega)
    | ((with_reducible apply lm_sAl); (first | exact rfl | exact lm_arB (by omega) | exact lm_arM (by omega)); omega)
    | ((with_reducible apply lm_iW); decide))
  refine lm_cI (lm_u49 (d := d) false) ?_
  refine lm_iF (show ¬ ¬ (0 : Int32) = 0 by decide) ?_
  exact rfl
theorem lm_u36b (hs : s ≤ 11) (h : ¬ (Int32.ofInt (-1) ≤ w ∧ w ≤ Int32.ofInt 12)) : lm_cal sc (d + 2) 36 [.ref 203, .int (Int32.ofNat s), .int w] (lm_w m n x) = some (.ok (some (.int 0)), lm_w (lm_u m 203 4 1) n x) := by
  refine lm_cal_of (Y := lm_m36) rfl rfl (lm_e36_0 ?_)
  unfold lm_q36_0
  refine lm_cI (lm_t52n (i := s) (d := d) (n := 11) hs (by omega)) ?_
  refine lm_iF (show ¬ (1 : Int32) = 0 by decide) ?_
  refine lm_cI (lm_t52g (d := d) h) ?_
  refine lm_iT (show (0 : Int32) = 0 by decide) ?_
  refine lm_e36_25 ?_
  unfold lm_q36_25
  refine lm_e36_26 ?_
  unfold lm_q36_26
  repeat (first
    | ((with_reducible apply lm_sI); exact rfl)
    | ((with_reducible apply lm_sR); exact rfl)
    | ((with_reducible apply lm_sS); exact rfl; exact rfl)
    | ((with_reducible apply lm_sL); exact rfl)
    | ((with_reducible apply lm_sP); exact rfl; exact rfl)
    | ((with_reducible apply lm_sPL); exact rfl; exact rfl)
    | ((with_reducible apply lm_sAA); exact rfl; first | exact rfl | exact lm_roO (by omega) | exact lm_roM (by omega))
    | ((with_reducible apply lm_sI); exact lm_fpL (by omega))
    | ((with_reducible apply lm_sR); exact lm_fpB (by omega))
    | ((with_reducible apply lm_sP); exact lm_fpL (by omega); exact rfl)
    | ((with_reducible apply lm_sS); exact lm_ocO (by omega); exact rfl)
    | ((with_reducible apply lm_sA); exact rfl; omega)
    | ((with_reducible apply lm_sJ); exact rfl; omega)
    | ((with_reducible apply lm_sB); (first | exact rfl | exact lm_arB (by omega) | exact lm_arM (by omega)); omega)
    | ((with_reducible apply lm_wA); exact rfl; omega)
    | ((with_reducible apply lm_wJ); exact rfl; omega)
    | ((with_reducible apply lm_wB); (first | exact rfl | exact lm_arB (by omega) | exact lm_arM (by omega)); omega)
    | ((with_reducible apply lm_sAl); (first | exact rfl | exact lm_arB (by omega) | exact lm_arM (by omega)); omega)
    | ((with_reducible apply lm_iW); decide))
  refine lm_cI (lm_u49 (d := d) false) ?_
  refine lm_iF (show ¬ ¬ (0 : Int32) = 0 by decide) ?_
  exact rfl
theorem lm_u36c (hf : ∀ i, i < 8 → m 214 i = Int32.ofNat 0) (hs : s ≤ 11) (h : Int32.ofInt (-1) ≤ w ∧ w ≤ Int32.ofInt 12) : ∃ m2, lm_PM (lm_u m 203 4 0) s m2 ∧ lm_cal sc (d + 2) 36 [.ref 203, .int (Int32.ofNat s), .int w] (lm_w m n x) = some (.ok (some (.int 0)), lm_w (lm_u m2 203 4 3) n x) := by
  obtain ⟨m2, e, f⟩ := lm_u107 (sc := sc) (d := d) (m := lm_u m 203 4 0) (n := n) (x := x) hs
  refine ⟨m2, f, ?_⟩
  have hb := lm_sn_b (s := s)
  have g : ∀ i, i < 8 → m2 214 i = Int32.ofNat 0 := fun i hi => by rw [f.2.2.2.2 214 (by decide) (by decide), lm_u_row (by decide)]; exact hf i hi
  refine lm_cal_of (Y := lm_m36) rfl rfl (lm_e36_0 ?_)
  unfold lm_q36_0
  refine lm_cI (lm_t52n (i := s) (d := d) (n := 11) hs (by omega)) ?_
  refine lm_iF (show ¬ (1 : Int32) = 0 by decide) ?_
  refine lm_cI (lm_t52t (d := d) h) ?_
  refine lm_iF (show ¬ (1 : Int32) = 0 by decide) ?_
  refine lm_e36_26 ?_
  unfold lm_q36_26
  repeat (first
    | ((with_reducible apply lm_sI); exact rfl)
    | ((with_reducible apply lm_sR); exact rfl)
    | ((with_reducible apply lm_sS); exact rfl; exact rfl)
    | ((with_reducible apply lm_sL); exact rfl)
    | ((with_reducible apply lm_sP); exact rfl; exact rfl)
    | ((with_reducible apply lm_sPL); exact rfl; exact rfl)
    | ((with_reducible apply lm_sAA); exact rfl; first | exact rfl | exact lm_roO (by omega) | exact lm_roM (by omega))
    | ((with_reducible apply lm_sI); exact lm_fpL (by omega))
    | ((with_reducible apply lm_sR); exact lm_fpB (by omega))
    | ((with_reducible apply lm_sP); exact lm_fpL (by omega); exact rfl)
    | ((with_reducible apply lm_sS); exact lm_ocO (by omega); exact rfl)
    | ((with_reducible apply lm_sA); exact rfl; omega)
    | ((with_reducible apply lm_sJ); exact rfl; omega)
    | ((with_reducible apply lm_sB); (first | exact rfl | exact lm_arB (by omega) | exact lm_arM (by omega)); omega)
    | ((with_reducible apply lm_wA); exact rfl; omega)
    | ((with_reducible apply lm_wJ); exact rfl; omega)
    | ((with_reducible apply lm_wB); (first | exact rfl | exact lm_arB (by omega) | exact lm_arM (by omega)); omega)
    | ((with_reducible apply lm_sAl); (first | exact rfl | exact lm_arB (by omega) | exact lm_arM (by omega)); omega)
    | ((with_reducible apply lm_iW); decide))
  refine lm_cI (lm_u49 (d := d) true) ?_
  refine lm_iT (show ¬ (1 : Int32) = 0 by decide) ?_
  repeat (first
    | ((with_reducible apply lm_sI); exact rfl)
    | ((with_reducible apply lm_sR); exact rfl)
    | ((with_reducible apply lm_sS); exact rfl; exact rfl)
    | ((with_reducible apply lm_sL); exact rfl)
    | ((with_reducible apply lm_sP); exact rfl; exact rfl)
    | ((with_reducible apply lm_sPL); exact rfl; exact rfl)
    | ((with_reducible apply lm_sAA); exact rfl; first | exact rfl | exact lm_roO (by omega) | exact lm_roM (by omega))
    | ((with_reducible apply lm_sI); exact lm_fpL (by omega))
    | ((with_reducible apply lm_sR); exact lm_fpB (by omega))
    | ((with_reducible apply lm_sP); exact lm_fpL (by omega); exact rfl)
    | ((with_reducible apply lm_sS); exact lm_ocO (by omega); exact rfl)
    | ((with_reducible apply lm_sA); exact rfl; omega)
    | ((with_reducible apply lm_sJ); exact rfl; omega)
    | ((with_reducible apply lm_sB); (first | exact rfl | exact lm_arB (by omega) | exact lm_arM (by omega)); omega)
    | ((with_reducible apply lm_wA); exact rfl; omega)
    | ((with_reducible apply lm_wJ); exact rfl; omega)
    | ((with_reducible apply lm_wB); (first | exact rfl | exact lm_arB (by omega) | exact lm_arM (by omega)); omega)
    | ((with_reducible apply lm_sAl); (first | exact rfl | exact lm_arB (by omega) | exact lm_arM (by omega)); omega)
    | ((with_reducible apply lm_iW); decide))
  refine lm_cV e ?_
  repeat (first
    | ((with_reducible apply lm_sI); exact rfl)
    | ((with_reducible apply lm_sR); exact rfl)
    | ((with_reducible apply lm_sS); exact rfl; exact rfl)
    | ((with_reducible apply lm_sL); exact rfl)
    | ((with_reducible apply lm_sP); exact rfl; exact rfl)
    | ((with_reducible apply lm_sPL); exact rfl; exact rfl)
    | ((with_reducible apply lm_sAA); exact rfl; first | exact rfl | exact lm_roO (by omega) | exact lm_roM (by omega))
    | ((with_reducible apply lm_sI); exact lm_fpL (by omega))
    | ((with_reducible apply lm_sR); exact lm_fpB (by omega))
    | ((with_reducible apply lm_sP); exact lm_fpL (by omega); exact rfl)
    | ((with_reducible apply lm_sS); exact lm_ocO (by omega); exact rfl)
    | ((with_reducible apply lm_sA); exact rfl; omega)
    | ((with_reducible apply lm_sJ); exact rfl; omega)
    | ((with_reducible apply lm_sB); (first | exact rfl | exact lm_arB (by omega) | exact lm_arM (by omega)); omega)
    | ((with_reducible apply lm_wA); exact rfl; omega)
    | ((with_reducible apply lm_wJ); exact rfl; omega)
    | ((with_reducible apply lm_wB); (first | exact rfl | exact lm_arB (by omega) | exact lm_arM (by omega)); omega)
    | ((with_reducible apply lm_sAl); (first | exact rfl | exact lm_arB (by omega) | exact lm_arM (by omega)); omega)
    | ((with_reducible apply lm_iW); decide))
  refine lm_cI (lm_u96 (d := d) (g 4 (by omega))) ?_
  refine lm_iF (show ¬ (1 : Int32) = 0 by decide) ?_
  rw [lm_K0]
  repeat (first
    | ((with_reducible apply lm_sI); exact rfl)
    | ((with_reducible apply lm_sR); exact rfl)
    | ((with_reducible apply lm_sS); exact rfl; exact rfl)
    | ((with_reducible apply lm_sL); exact rfl)
    | ((with_reducible apply lm_sP); exact rfl; exact rfl)
    | ((with_reducible apply lm_sPL); exact rfl; exact rfl)
    | ((with_reducible apply lm_sAA); exact rfl; first | exact rfl | exact lm_roO (by omega) | exact lm_roM (by omega))
    | ((with_reducible apply lm_sI); exact lm_fpL (by omega))
    | ((with_reducible apply lm_sR); exact lm_fpB (by omega))
    | ((with_reducible apply lm_sP); exact lm_fpL (by omega); exact rfl)
    | ((with_reducible apply lm_sS); exact lm_ocO (by omega); exact rfl)
    | ((with_reducible apply lm_sA); exact rfl; omega)
    | ((with_reducible apply lm_sJ); exact rfl; omega)
    | ((with_reducible apply lm_sB); (first | exact rfl | exact lm_arB (by omega) | exact lm_arM (by omega)); omega)
    | ((with_reducible apply lm_wA); exact rfl; omega)
    | ((with_reducible apply lm_wJ); exact rfl; omega)
    | ((with_reducible apply lm_wB); (first | exact rfl | exact lm_arB (by omega) | exact lm_arM (by omega)); omega)
    | ((with_reducible apply lm_sAl); (first | exact rfl | exact lm_arB (by omega) | exact lm_arM (by omega)); omega)
    | ((with_reducible apply lm_iW); decide))
  simp only [Nat.reduceDiv, Nat.reduceMod, f.1]
  rw [g 0 (by omega)]
  refine lm_eqF (by decide) (by omega) (by omega) ?_
  repeat (first
    | ((with_reducible apply lm_sI); exact rfl)
    | ((with_reducible apply lm_sR); exact rfl)
    | ((with_reducible apply lm_sS); exact rfl; exact rfl)
    | ((with_reducible apply lm_sL); exact rfl)
    | ((with_reducible apply lm_sP); exact rfl; exact rfl)
    | ((with_reducible apply lm_sPL); exact rfl; exact rfl)
    | ((with_reducible apply lm_sAA); exact rfl; first | exact rfl | exact lm_roO (by omega) | exact lm_roM (by omega))
    | ((with_reducible apply lm_sI); exact lm_fpL (by omega))
    | ((with_reducible apply lm_sR); exact lm_fpB (by omega))
    | ((with_reducible apply lm_sP); exact lm_fpL (by omega); exact rfl)
    | ((with_reducible apply lm_sS); exact lm_ocO (by omega); exact rfl)
    | ((with_reducible apply lm_sA); exact rfl; omega)
    | ((with_reducible apply lm_sJ); exact rfl; omega)
    | ((with_reducible apply lm_sB); (first | exact rfl | exact lm_arB (by omega) | exact lm_arM (by omega)); omega)
    | ((with_reducible apply lm_wA); exact rfl; omega)
    | ((with_reducible apply lm_wJ); exact rfl; omega)
    | ((with_reducible apply lm_wB); (first | exact rfl | exact lm_arB (by omega) | exact lm_arM (by omega)); omega)
    | ((with_reducible apply lm_sAl); (first | exact rfl | exact lm_arB (by omega) | exact lm_arM (by omega)); omega)
    | ((with_reducible apply lm_iW); decide))
  rw [g 0 (by omega)]
  refine lm_iF (show ¬ ¬ Int32.ofNat 0 = 0 by decide) ?_
  refine lm_e36_71 ?_
  unfold lm_q36_71
  refine lm_e36_76 ?_
  unfold lm_q36_76
  repeat (first
    | ((with_reducible apply lm_sI); exact rfl)
    | ((with_reducible apply lm_sR); exact rfl)
    | ((with_reducible apply lm_sS); exact rfl; exact rfl)
    | ((with_reducible apply lm_sL); exact rfl)
    | ((with_reducible apply lm_sP); exact rfl; exact rfl)
    | ((with_reducible apply lm_sPL); exact rfl; exact rfl)
    | ((with_reducible apply lm_sAA); exact rfl; first | exact rfl | exact lm_roO (by omega) | exact lm_roM (by omega))
    | ((with_reducible apply lm_sI); exact lm_fpL (by omega))
    | ((with_reducible apply lm_sR); exact lm_fpB (by omega))
    | ((with_reducible apply lm_sP); exact lm_fpL (by omega); exact rfl)
    | ((with_reducible apply lm_sS); exact lm_ocO (by omega); exact rfl)
    | ((with_reducible apply lm_sA); exact rfl; omega)
    | ((with_reducible apply lm_sJ); exact rfl; omega)
    | ((with_reducible apply lm_sB); (first | exact rfl | exact lm_arB (by omega) | exact lm_arM (by omega)); omega)
    | ((with_reducible apply lm_wA); exact rfl; omega)
    | ((with_reducible apply lm_wJ); exact rfl; omega)
    | ((with_reducible apply lm_wB); (first | exact rfl | exact lm_arB (by omega) | exact lm_arM (by omega)); omega)
    | ((with_reducible apply lm_sAl); (first | exact rfl | exact lm_arB (by omega) | exact lm_arM (by omega)); omega)
    | ((with_reducible apply lm_iW); decide))
  refine lm_cI (lm_u49 (d := d) true) ?_
  refine lm_iF (show ¬ (1 : Int32) = 0 by decide) ?_
  rw [lm_K2, lm_K4]
  repeat (first
    | ((with_reducible apply lm_sI); exact rfl)
    | ((with_reducible apply lm_sR); exact rfl)
    | ((with_reducible apply lm_sS); exact rfl; exact rfl)
    | ((with_reducible apply lm_sL); exact rfl)
    | ((with_reducible apply lm_sP); exact rfl; exact rfl)
    | ((with_reducible apply lm_sPL); exact rfl; exact rfl)
    | ((with_reducible apply lm_sAA); exact rfl; first | exact rfl | exact lm_roO (by omega) | exact lm_roM (by omega))
    | ((with_reducible apply lm_sI); exact lm_fpL (by omega))
    | ((with_reducible apply lm_sR); exact lm_fpB (by omega))
    | ((with_reducible apply lm_sP); exact lm_fpL (by omega); exact rfl)
    | ((with_reducible apply lm_sS); exact lm_ocO (by omega); exact rfl)
    | ((with_reducible apply lm_sA); exact rfl; omega)
    | ((with_reducible apply lm_sJ); exact rfl; omega)
    | ((with_reducible apply lm_sB); (first | exact rfl | exact lm_arB (by omega) | exact lm_arM (by omega)); omega)
    | ((with_reducible apply lm_wA); exact rfl; omega)
    | ((with_reducible apply lm_wJ); exact rfl; omega)
    | ((with_reducible apply lm_wB); (first | exact rfl | exact lm_arB (by omega) | exact lm_arM (by omega)); omega)
    | ((with_reducible apply lm_sAl); (first | exact rfl | exact lm_arB (by omega) | exact lm_arM (by omega)); omega)
    | ((with_reducible apply lm_iW); decide))
  simp only [Nat.reduceDiv, Nat.reduceMod]
  rw [lm_u_row (by decide), g 2 (by omega), lm_u_ne (by decide), f.1, lm_om]
  refine lm_neT (by decide) (by omega) (by omega) ?_
  refine lm_e36_104 ?_
  unfold lm_q36_104
  repeat (first
    | ((with_reducible apply lm_sI); exact rfl)
    | ((with_reducible apply lm_sR); exact rfl)
    | ((with_reducible apply lm_sS); exact rfl; exact rfl)
    | ((with_reducible apply lm_sL); exact rfl)
    | ((with_reducible apply lm_sP); exact rfl; exact rfl)
    | ((with_reducible apply lm_sPL); exact rfl; exact rfl)
    | ((with_reducible apply lm_sAA); exact rfl; first | exact rfl | exact lm_roO (by omega) | exact lm_roM (by omega))
    | ((with_reducible apply lm_sI); exact lm_fpL (by omega))
    | ((with_reducible apply lm_sR); exact lm_fpB (by omega))
    | ((with_reducible apply lm_sP); exact lm_fpL (by omega); exact rfl)
    | ((with_reducible apply lm_sS); exact lm_ocO (by omega); exact rfl)
    | ((with_reducible apply lm_sA); exact rfl; omega)
    | ((with_reducible apply lm_sJ); exact rfl; omega)
    | ((with_reducible apply lm_sB); (first | exact rfl | exact lm_arB (by omega) | exact lm_arM (by omega)); omega)
    | ((with_reducible apply lm_wA); exact rfl; omega)
    | ((with_reducible apply lm_wJ); exact rfl; omega)
    | ((with_reducible apply lm_wB); (first | exact rfl | exact lm_arB (by omega) | exact lm_arM (by omega)); omega)
    | ((with_reducible apply lm_sAl); (first | exact rfl | exact lm_arB (by omega) | exact lm_arM (by omega)); omega)
    | ((with_reducible apply lm_iW); decide))
  refine lm_cI (lm_u49 (d := d) false) ?_
  repeat (first
    | ((with_reducible apply lm_sI); exact rfl)
    | ((with_reducible apply lm_sR); exact rfl)
    | ((with_reducible apply lm_sS); exact rfl; exact rfl)
    | ((with_reducible apply lm_sL); exact rfl)
    | ((with_reducible apply lm_sP); exact rfl; exact rfl)
    | ((with_reducible apply lm_sPL); exact rfl; exact rfl)
    | ((with_reducible apply lm_sAA); exact rfl; first | exact rfl | exact lm_roO (by omega) | exact lm_roM (by omega))
    | ((with_reducible apply lm_sI); exact lm_fpL (by omega))
    | ((with_reducible apply lm_sR); exact lm_fpB (by omega))
    | ((with_reducible apply lm_sP); exact lm_fpL (by omega); exact rfl)
    | ((with_reducible apply lm_sS); exact lm_ocO (by omega); exact rfl)
    | ((with_reducible apply lm_sA); exact rfl; omega)
    | ((with_reducible apply lm_sJ); exact rfl; omega)
    | ((with_reducible apply lm_sB); (first | exact rfl | exact lm_arB (by omega) | exact lm_arM (by omega)); omega)
    | ((with_reducible apply lm_wA); exact rfl; omega)
    | ((with_reducible apply lm_wJ); exact rfl; omega)
    | ((with_reducible apply lm_wB); (first | exact rfl | exact lm_arB (by omega) | exact lm_arM (by omega)); omega)
    | ((with_reducible apply lm_sAl); (first | exact rfl | exact lm_arB (by omega) | exact lm_arM (by omega)); omega)
    | ((with_reducible apply lm_iW); decide)
    | ((with_reducible apply lm_iTd); exact rfl)
    | ((with_reducible apply lm_iFd); exact rfl)
    | ((with_reducible apply lm_sSt); exact rfl; exact rfl; exact rfl)
    | ((with_reducible apply lm_sIz); exact rfl)
    | ((with_reducible apply lm_sPz); exact rfl; exact rfl; decide))
  rw [lm_uu]
  exact rfl
theorem lm_st16f (h : lm_Fre m) : lm_Stp (lm_sc xs) 35 36 [.int v, .int w] m n x := by
  intro r hr
  have hx := lm_rm_room hr
  rcases lm_range v (n := 11) (by omega) with ⟨s, hs, e⟩ | e
  · subst e
    by_cases c : Int32.ofInt (-1) ≤ w ∧ w ≤ Int32.ofInt 12
    · obtain ⟨m1, f1, c1⟩ := lm_u110c (xs := xs) (d := 596) (n := n) h hs c hx
      obtain ⟨m2, f2, c2⟩ := lm_u36c (sc := lm_sc xs) (d := 598) (m := m1) (n := n) (x := lm_xx 16 x) (s := s) (fun i hi => by rw [f1.2.2.2 214 (by decide) (by decide)]; exact (h.2.2 i hi).2) hs c
      obtain ⟨t1, t2⟩ := h.tie.slh (n := n) f1 f2 rfl
      exact ⟨3, 0, _, _, _, _, _, lm_v35_16 hx c1, c2, lm_u_eq, fun h => absurd h (by decide), t1, t2, lm_rm_xx hr⟩
    · exact ⟨1, 0, _, _, _, _, _, lm_v35_13 hx (lm_u110b (d := 596) hs c hx), lm_u36b (d := 598) hs c, lm_u_eq, fun h => absurd h (by decide), h.tie.cod, lm_kpc, lm_rm_xx hr⟩
  · exact ⟨1, 0, _, _, _, _, _, lm_v35_13 hx (lm_u110a (d := 596) e hx), lm_u36a (d := 598) e, lm_u_eq, fun h => absurd h (by decide), h.tie.cod, lm_kpc, lm_rm_xx hr⟩
/-! verify -/
theorem lm_u121a (h : ¬ ((0 : Int32) ≤ v ∧ v ≤ Int32.ofNat 11)) (hr : lm_rom x) : lm_cal sc (d + 3) 121 [.ref 0, .int v, .int w] (lm_w m n x) = some (.error (lm_xp x), lm_w m n (lm_xx 13 x)) := by
  refine lm_cal_of (Y := lm_m121) rfl rfl (lm_e121_0 ?_)
  unfold lm_q121_0
  exact lm_cVe (lm_u132e (d := d + 1) (k := 11) h hr)
theorem lm_u121b (hs : s ≤ 11) (h : ¬ (Int32.ofInt (-1) ≤ w ∧ w ≤ Int32.ofInt 12)) (hr : lm_rom x) : lm_cal sc (d + 3) 121 [.ref 0, .int (Int32.ofNat s), .int w] (lm_w m n x) = some (.error (lm_xp x), lm_w m n (lm_xx 13 x)) := by
  refine lm_cal_of (Y := lm_m121) rfl rfl (lm_e121_0 ?_)
  unfold lm_q121_0
  refine lm_cV (lm_t132n (i := s) (d := d + 1) (n := 11) hs (by omega)) ?_
  exact lm_cVe (lm_u132g (d := d + 1) h hr)
theorem lm_u121c (hf : lm_Fre m) (hs : s ≤ 11) (h : Int32.ofInt (-1) ≤ w ∧ w ≤ Int32.ofInt 12) (hr : lm_rom x) : ∃ m1, lm_PS m s m1 ∧ lm_cal (lm_sc xs) (d + 3) 121 [.ref 0, .int (Int32.ofNat s), .int w] (lm_w m n x) = some (.error (lm_xp x), lm_w m1 n (lm_xx 16 x)) := by
  obtain ⟨m1, e, f⟩ := lm_u176 (xs := xs) (d := d) (m := m) (n := n) (x := x) hs
  refine ⟨m1, f, ?_⟩
  have hb := lm_sn_b (s := s)
  have h1 : m1 28 1 = Int32.ofNat 0 := by rw [f.2.2.2 28 (by decide) (by decide)]; exact (hf.2.2 1 (by omega)).1
  have h4 : m1 34 1 = Int32.ofNat 0 := by rw [f.2.2.2 34 (by decide) (by decide)]; exact (hf.2.2 4 (by omega)).1
  refine lm_cal_of (Y := lm_m121) rfl rfl (lm_e121_0 ?_)
  unfold lm_q121_0
  refine lm_cV (lm_t132n (i := s) (d := d + 1) (n := 11) hs (by omega)) ?_
  refine lm_cV (lm_t132 (d := d + 1) h.1 h.2) ?_
  repeat (first
    | ((with_reducible apply lm_sI); exact rfl)
    | ((with_reducible apply lm_sR); exact rfl)
    | ((with_reducible apply lm_sS); exact rfl; exact rfl)
    | ((with_reducible apply lm_sL); exact rfl)
    | ((with_reducible apply lm_sP); exact rfl; exact rfl)
    | ((with_reducible apply lm_sPL); exact rfl; exact rfl)
    | ((with_reducible apply lm_sAA); exact rfl; first | exact rfl | exact lm_roO (by omega) | exact lm_roM (by omega))
    | ((with_reducible apply lm_sI); exact lm_fpL (by omega))
    | ((with_reducible apply lm_sR); exact lm_fpB (by omega))
    | ((with_reducible apply lm_sP); exact lm_fpL (by omega); exact rfl)
    | ((with_reducible apply lm_sS); exact lm_ocO (by omega); exact rfl)
    | ((with_reducible apply lm_sA); exact rfl; omega)
    | ((with_reducible apply lm_sJ); exact rfl; omega)
    | ((with_reducible apply lm_sB); (first | exact rfl | exact lm_arB (by omega) | exact lm_arM (by omega)); omega)
    | ((with_reducible apply lm_wA); exact rfl; omega)
    | ((with_reducible apply lm_wJ); exact rfl; omega)
    | ((with_reducible apply lm_wB); (first | exact rfl | exact lm_arB (by omega) | exact lm_arM (by omega)); omega)
    | ((with_reducible apply lm_sAl); (first | exact rfl | exact lm_arB (by omega) | exact lm_arM (by omega)); omega)
    | ((with_reducible apply lm_iW); decide))
  refine lm_cV e ?_
  repeat (first
    | ((with_reducible apply lm_sI); exact rfl)
    | ((with_reducible apply lm_sR); exact rfl)
    | ((with_reducible apply lm_sS); exact rfl; exact rfl)
    | ((with_reducible apply lm_sL); exact rfl)
    | ((with_reducible apply lm_sP); exact rfl; exact rfl)
    | ((with_reducible apply lm_sPL); exact rfl; exact rfl)
    | ((with_reducible apply lm_sAA); exact rfl; first | exact rfl | exact lm_roO (by omega) | exact lm_roM (by omega))
    | ((with_reducible apply lm_sI); exact lm_fpL (by omega))
    | ((with_reducible apply lm_sR); exact lm_fpB (by omega))
    | ((with_reducible apply lm_sP); exact lm_fpL (by omega); exact rfl)
    | ((with_reducible apply lm_sS); exact lm_ocO (by omega); exact rfl)
    | ((with_reducible apply lm_sA); exact rfl; omega)
    | ((with_reducible apply lm_sJ); exact rfl; omega)
    | ((with_reducible apply lm_sB); (first | exact rfl | exact lm_arB (by omega) | exact lm_arM (by omega)); omega)
    | ((with_reducible apply lm_wA); exact rfl; omega)
    | ((with_reducible apply lm_wJ); exact rfl; omega)
    | ((with_reducible apply lm_wB); (first | exact rfl | exact lm_arB (by omega) | exact lm_arM (by omega)); omega)
    | ((with_reducible apply lm_sAl); (first | exact rfl | exact lm_arB (by omega) | exact lm_arM (by omega)); omega)
    | ((with_reducible apply lm_iW); decide))
  refine lm_cI (lm_u168 (d := d + 1) h4) ?_
  refine lm_cV (lm_u150 (d := d + 1)) ?_
  rw [lm_K1, lm_K2]
  repeat (first
    | ((with_reducible apply lm_sI); exact rfl)
    | ((with_reducible apply lm_sR); exact rfl)
    | ((with_reducible apply lm_sS); exact rfl; exact rfl)
    | ((with_reducible apply lm_sL); exact rfl)
    | ((with_reducible apply lm_sP); exact rfl; exact rfl)
    | ((with_reducible apply lm_sPL); exact rfl; exact rfl)
    | ((with_reducible apply lm_sAA); exact rfl; first | exact rfl | exact lm_roO (by omega) | exact lm_roM (by omega))
    | ((with_reducible apply lm_sI); exact lm_fpL (by omega))
    | ((with_reducible apply lm_sR); exact lm_fpB (by omega))
    | ((with_reducible apply lm_sP); exact lm_fpL (by omega); exact rfl)
    | ((with_reducible apply lm_sS); exact lm_ocO (by omega); exact rfl)
    | ((with_reducible apply lm_sA); exact rfl; omega)
    | ((with_reducible apply lm_sJ); exact rfl; omega)
    | ((with_reducible apply lm_sB); (first | exact rfl | exact lm_arB (by omega) | exact lm_arM (by omega)); omega)
    | ((with_reducible apply lm_wA); exact rfl; omega)
    | ((with_reducible apply lm_wJ); exact rfl; omega)
    | ((with_reducible apply lm_wB); (first | exact rfl | exact lm_arB (by omega) | exact lm_arM (by omega)); omega)
    | ((with_reducible apply lm_sAl); (first | exact rfl | exact lm_arB (by omega) | exact lm_arM (by omega)); omega)
    | ((with_reducible apply lm_iW); decide))
  simp only [Nat.reduceDiv, Nat.reduceMod, h1, f.1, lm_om]
  refine lm_neT (by decide) (by omega) (by omega) ?_
  refine lm_e121_59 ?_
  unfold lm_q121_59
  exact lm_cVe (lm_u160e (d := d + 1) hr)
theorem lm_u38a (h : ¬ ((0 : Int32) ≤ v ∧ v ≤ Int32.ofNat 11)) : lm_cal sc (d + 2) 38 [.ref 203, .int v, .int w] (lm_w m n x) = some (.ok (some (.int (lm_z false))), lm_w (lm_u m 203 4 1) n x) := by
  refine lm_cal_of (Y := lm_m38) rfl rfl (lm_e38_0 ?_)
  unfold lm_q38_0
  refine lm_cI (lm_t52f (d := d) h) ?_
  refine lm_iT (show (0 : Int32) = 0 by decide) ?_
  refine lm_e38_25 ?_
  unfold lm_q38_25
  refine lm_e38_26 ?_
  unfold lm_q38_26
  repeat (first
    | ((with_reducible apply lm_sI); exact rfl)
    | ((with_reducible apply lm_sR); exact rfl)
    | ((with_reducible apply lm_sS); exact rfl; exact rfl)
    | ((with_reducible apply lm_sL); exact rfl)
    | ((with_reducible apply lm_sP); exact rfl; exact rfl)
    | ((with_reducible apply lm_sPL); exact rfl; exact rfl)
    | ((with_reducible apply lm_sAA); exact rfl; first | exact rfl | exact lm_roO (by omega) | exact lm_roM (by omega))
    | ((with_reducible apply lm_sI); exact lm_fpL (by omega))
    | ((with_reducible apply lm_sR); exact lm_fpB (by omega))
    | ((with_reducible apply lm_sP); exact lm_fpL (by omega); exact rfl)
    | ((with_reducible apply lm_sS); exact lm_ocO (by omega); exact rfl)
    | ((with_reducible apply lm_sA); exact rfl; omega)
    | ((with_reducible apply lm_sJ); exact rfl; omega)
    | ((with_reducible apply lm_sB); (first | exact rfl | exact lm_arB (by omega) | exact lm_arM (by omega)); omega)
    | ((with_reducible apply lm_wA); exact rfl; omega)
    | ((with_reducible apply lm_wJ); exact rfl; omega)
    | ((with_reducible apply lm_wB); (first | exact rfl | exact lm_arB (by omega) | exact lm_arM (by omega)); omega)
    | ((with_reducible apply lm_sAl); (first | exact rfl | exact lm_arB (by omega) | exact lm_arM (by omega)); omega)
    | ((with_reducible apply lm_iW); decide))
  refine lm_cI (lm_u49 (d := d) false) ?_
  refine lm_iF (show ¬ ¬ (0 : Int32) = 0 by decide) ?_
  exact lm_iW (by decide) rfl
theorem lm_u38b (hs : s ≤ 11) (h : ¬ (Int32.ofInt (-1) ≤ w ∧ w ≤ Int32.ofInt 12)) : lm_cal sc (d + 2) 38 [.ref 203, .int (Int32.ofNat s), .int w] (lm_w m n x) = some (.ok (some (.int (lm_z false))), lm_w (lm_u m 203 4 1) n x) := by
  refine lm_cal_of (Y := lm_m38) rfl rfl (lm_e38_0 ?_)
  unfold lm_q38_0
  refine lm_cI (lm_t52n (i := s) (d := d) (n := 11) hs (by omega)) ?_
  refine lm_iF (show ¬ (1 : Int32) = 0 by decide) ?_
  refine lm_cI (lm_t52g (d := d) h) ?_
  refine lm_iT (show (0 : Int32) = 0 by decide) ?_
  refine lm_e38_25 ?_
  unfold lm_q38_25
  refine lm_e38_26 ?_
  unfold lm_q38_26
  repeat (first
    | ((with_reducible apply lm_sI); exact rfl)
    | ((with_reducible apply lm_sR); exact rfl)
    | ((with_reducible apply lm_sS); exact rfl; exact rfl)
    | ((with_reducible apply lm_sL); exact rfl)
    | ((with_reducible apply lm_sP); exact rfl; exact rfl)
    | ((with_reducible apply lm_sPL); exact rfl; exact rfl)
    | ((with_reducible apply lm_sAA); exact rfl; first | exact rfl | exact lm_roO (by omega) | exact lm_roM (by omega))
    | ((with_reducible apply lm_sI); exact lm_fpL (by omega))
    | ((with_reducible apply lm_sR); exact lm_fpB (by omega))
    | ((with_reducible apply lm_sP); exact lm_fpL (by omega); exact rfl)
    | ((with_reducible apply lm_sS); exact lm_ocO (by omega); exact rfl)
    | ((with_reducible apply lm_sA); exact rfl; omega)
    | ((with_reducible apply lm_sJ); exact rfl; omega)
    | ((with_reducible apply lm_sB); (first | exact rfl | exact lm_arB (by omega) | exact lm_arM (by omega)); omega)
    | ((with_reducible apply lm_wA); exact rfl; omega)
    | ((with_reducible apply lm_wJ); exact rfl; omega)
    | ((with_reducible apply lm_wB); (first | exact rfl | exact lm_arB (by omega) | exact lm_arM (by omega)); omega)
    | ((with_reducible apply lm_sAl); (first | exact rfl | exact lm_arB (by omega) | exact lm_arM (by omega)); omega)
    | ((with_reducible apply lm_iW); decide))
  refine lm_cI (lm_u49 (d := d) false) ?_
  refine lm_iF (show ¬ ¬ (0 : Int32) = 0 by decide) ?_
  exact lm_iW (by decide) rfl
theorem lm_u38c (hf : ∀ i, i < 8 → m 214 i = Int32.ofNat 0) (hs : s ≤ 11) (h : Int32.ofInt (-1) ≤ w ∧ w ≤ Int32.ofInt 12) : ∃ m2, lm_PM (lm_u m 203 4 0) s m2 ∧ lm_cal sc (d + 2) 38 [.ref 203, .int (Int32.ofNat s), .int w] (lm_w m n x) = some (.ok (some (.int (lm_z false))), lm_w (lm_u m2 203 4 3) n x) := by
  obtain ⟨m2, e, f⟩ := lm_u107 (sc := sc) (d := d) (m := lm_u m 203 4 0) (n := n) (x := x) hs
  refine ⟨m2, f, ?_⟩
  have hb := lm_sn_b (s := s)
  have g : ∀ i, i < 8 → m2 214 i = Int32.ofNat 0 := fun i hi => by rw [f.2.2.2.2 214 (by decide) (by decide), lm_u_row (by decide)]; exact hf i hi
  refine lm_cal_of (Y := lm_m38) rfl rfl (lm_e38_0 ?_)
  unfold lm_q38_0
  refine lm_cI (lm_t52n (i := s) (d := d) (n := 11) hs (by omega)) ?_
  refine lm_iF (show ¬ (1 : Int32) = 0 by decide) ?_
  refine lm_cI (lm_t52t (d := d) h) ?_
  refine lm_iF (show ¬ (1 : Int32) = 0 by decide) ?_
  refine lm_e38_26 ?_
  unfold lm_q38_26
  repeat (first
    | ((with_reducible apply lm_sI); exact rfl)
    | ((with_reducible apply lm_sR); exact rfl)
    | ((with_reducible apply lm_sS); exact rfl; exact rfl)
    | ((with_reducible apply lm_sL); exact rfl)
    | ((with_reducible apply lm_sP); exact rfl; exact rfl)
    | ((with_reducible apply lm_sPL); exact rfl; exact rfl)
    | ((with_reducible apply lm_sAA); exact rfl; first | exact rfl | exact lm_roO (by omega) | exact lm_roM (by omega))
    | ((with_reducible apply lm_sI); exact lm_fpL (by omega))
    | ((with_reducible apply lm_sR); exact lm_fpB (by omega))
    | ((with_reducible apply lm_sP); exact lm_fpL (by omega); exact rfl)
    | ((with_reducible apply lm_sS); exact lm_ocO (by omega); exact rfl)
    | ((with_reducible apply lm_sA); exact rfl; omega)
    | ((with_reducible apply lm_sJ); exact rfl; omega)
    | ((with_reducible apply lm_sB); (first | exact rfl | exact lm_arB (by omega) | exact lm_arM (by omega)); omega)
    | ((with_reducible apply lm_wA); exact rfl; omega)
    | ((with_reducible apply lm_wJ); exact rfl; omega)
    | ((with_reducible apply lm_wB); (first | exact rfl | exact lm_arB (by omega) | exact lm_arM (by omega)); omega)
    | ((with_reducible apply lm_sAl); (first | exact rfl | exact lm_arB (by omega) | exact lm_arM (by omega)); omega)
    | ((with_reducible apply lm_iW); decide))
  refine lm_cI (lm_u49 (d := d) true) ?_
  refine lm_iT (show ¬ (1 : Int32) = 0 by decide) ?_
  repeat (first
    | ((with_reducible apply lm_sI); exact rfl)
    | ((with_reducible apply lm_sR); exact rfl)
    | ((with_reducible apply lm_sS); exact rfl; exact rfl)
    | ((with_reducible apply lm_sL); exact rfl)
    | ((with_reducible apply lm_sP); exact rfl; exact rfl)
    | ((with_reducible apply lm_sPL); exact rfl; exact rfl)
    | ((with_reducible apply lm_sAA); exact rfl; first | exact rfl | exact lm_roO (by omega) | exact lm_roM (by omega))
    | ((with_reducible apply lm_sI); exact lm_fpL (by omega))
    | ((with_reducible apply lm_sR); exact lm_fpB (by omega))
    | ((with_reducible apply lm_sP); exact lm_fpL (by omega); exact rfl)
    | ((with_reducible apply lm_sS); exact lm_ocO (by omega); exact rfl)
    | ((with_reducible apply lm_sA); exact rfl; omega)
    | ((with_reducible apply lm_sJ); exact rfl; omega)
    | ((with_reducible apply lm_sB); (first | exact rfl | exact lm_arB (by omega) | exact lm_arM (by omega)); omega)
    | ((with_reducible apply lm_wA); exact rfl; omega)
    | ((with_reducible apply lm_wJ); exact rfl; omega)
    | ((with_reducible apply lm_wB); (first | exact rfl | exact lm_arB (by omega) | exact lm_arM (by omega)); omega)
    | ((with_reducible apply lm_sAl); (first | exact rfl | exact lm_arB (by omega) | exact lm_arM (by omega)); omega)
    | ((with_reducible apply lm_iW); decide))
  refine lm_cV e ?_
  repeat (first
    | ((with_reducible apply lm_sI); exact rfl)
    | ((with_reducible apply lm_sR); exact rfl)
    | ((with_reducible apply lm_sS); exact rfl; exact rfl)
    | ((with_reducible apply lm_sL); exact rfl)
    | ((with_reducible apply lm_sP); exact rfl; exact rfl)
    | ((with_reducible apply lm_sPL); exact rfl; exact rfl)
    | ((with_reducible apply lm_sAA); exact rfl; first | exact rfl | exact lm_roO (by omega) | exact lm_roM (by omega))
    | ((with_reducible apply lm_sI); exact lm_fpL (by omega))
    | ((with_reducible apply lm_sR); exact lm_fpB (by omega))
    | ((with_reducible apply lm_sP); exact lm_fpL (by omega); exact rfl)
    | ((with_reducible apply lm_sS); exact lm_ocO (by omega); exact rfl)
    | ((with_reducible apply lm_sA); exact rfl; omega)
    | ((with_reducible apply lm_sJ); exact rfl; omega)
    | ((with_reducible apply lm_sB); (first | exact rfl | exact lm_arB (by omega) | exact lm_arM (by omega)); omega)
    | ((with_reducible apply lm_wA); exact rfl; omega)
    | ((with_reducible apply lm_wJ); exact rfl; omega)
    | ((with_reducible apply lm_wB); (first | exact rfl | exact lm_arB (by omega) | exact lm_arM (by omega)); omega)
    | ((with_reducible apply lm_sAl); (first | exact rfl | exact lm_arB (by omega) | exact lm_arM (by omega)); omega)
    | ((with_reducible apply lm_iW); decide))
  refine lm_cI (lm_u96 (d := d) (g 4 (by omega))) ?_
  repeat (first
    | ((with_reducible apply lm_sI); exact rfl)
    | ((with_reducible apply lm_sR); exact rfl)
    | ((with_reducible apply lm_sS); exact rfl; exact rfl)
    | ((with_reducible apply lm_sL); exact rfl)
    | ((with_reducible apply lm_sP); exact rfl; exact rfl)
    | ((with_reducible apply lm_sPL); exact rfl; exact rfl)
    | ((with_reducible apply lm_sAA); exact rfl; first | exact rfl | exact lm_roO (by omega) | exact lm_roM (by omega))
    | ((with_reducible apply lm_sI); exact lm_fpL (by omega))
    | ((with_reducible apply lm_sR); exact lm_fpB (by omega))
    | ((with_reducible apply lm_sP); exact lm_fpL (by omega); exact rfl)
    | ((with_reducible apply lm_sS); exact lm_ocO (by omega); exact rfl)
    | ((with_reducible apply lm_sA); exact rfl; omega)
    | ((with_reducible apply lm_sJ); exact rfl; omega)
    | ((with_reducible apply lm_sB); (first | exact rfl | exact lm_arB (by omega) | exact lm_arM (by omega)); omega)
    | ((with_reducible apply lm_wA); exact rfl; omega)
    | ((with_reducible apply lm_wJ); exact rfl; omega)
    | ((with_reducible apply lm_wB); (first | exact rfl | exact lm_arB (by omega) | exact lm_arM (by omega)); omega)
    | ((with_reducible apply lm_sAl); (first | exact rfl | exact lm_arB (by omega) | exact lm_arM (by omega)); omega)
    | ((with_reducible apply lm_iW); decide))
  refine lm_cI (lm_u49 (d := d) true) ?_
  refine lm_iF (show ¬ (1 : Int32) = 0 by decide) ?_
  rw [lm_K1, lm_K2]
  repeat (first
    | ((with_reducible apply lm_sI); exact rfl)
    | ((with_reducible apply lm_sR); exact rfl)
    | ((with_reducible apply lm_sS); exact rfl; exact rfl)
    | ((with_reducible apply lm_sL); exact rfl)
    | ((with_reducible apply lm_sP); exact rfl; exact rfl)
    | ((with_reducible apply lm_sPL); exact rfl; exact rfl)
    | ((with_reducible apply lm_sAA); exact rfl; first | exact rfl | exact lm_roO (by omega) | exact lm_roM (by omega))
    | ((with_reducible apply lm_sI); exact lm_fpL (by omega))
    | ((with_reducible apply lm_sR); exact lm_fpB (by omega))
    | ((with_reducible apply lm_sP); exact lm_fpL (by omega); exact rfl)
    | ((with_reducible apply lm_sS); exact lm_ocO (by omega); exact rfl)
    | ((with_reducible apply lm_sA); exact rfl; omega)
    | ((with_reducible apply lm_sJ); exact rfl; omega)
    | ((with_reducible apply lm_sB); (first | exact rfl | exact lm_arB (by omega) | exact lm_arM (by omega)); omega)
    | ((with_reducible apply lm_wA); exact rfl; omega)
    | ((with_reducible apply lm_wJ); exact rfl; omega)
    | ((with_reducible apply lm_wB); (first | exact rfl | exact lm_arB (by omega) | exact lm_arM (by omega)); omega)
    | ((with_reducible apply lm_sAl); (first | exact rfl | exact lm_arB (by omega) | exact lm_arM (by omega)); omega)
    | ((with_reducible apply lm_iW); decide))
  simp only [Nat.reduceDiv, Nat.reduceMod]
  rw [lm_u_row (by decide), g 1 (by omega), lm_u_ne (by decide), f.1, lm_om]
  refine lm_neT (by decide) (by omega) (by omega) ?_
  refine lm_e38_74 ?_
  unfold lm_q38_74
  repeat (first
    | ((with_reducible apply lm_sI); exact rfl)
    | ((with_reducible apply lm_sR); exact rfl)
    | ((with_reducible apply lm_sS); exact rfl; exact rfl)
    | ((with_reducible apply lm_sL); exact rfl)
    | ((with_reducible apply lm_sP); exact rfl; exact rfl)
    | ((with_reducible apply lm_sPL); exact rfl; exact rfl)
    | ((with_reducible apply lm_sAA); exact rfl; first | exact rfl | exact lm_roO (by omega) | exact lm_roM (by omega))
    | ((with_reducible apply lm_sI); exact lm_fpL (by omega))
    | ((with_reducible apply lm_sR); exact lm_fpB (by omega))
    | ((with_reducible apply lm_sP); exact lm_fpL (by omega); exact rfl)
    | ((with_reducible apply lm_sS); exact lm_ocO (by omega); exact rfl)
    | ((with_reducible apply lm_sA); exact rfl; omega)
    | ((with_reducible apply lm_sJ); exact rfl; omega)
    | ((with_reducible apply lm_sB); (first | exact rfl | exact lm_arB (by omega) | exact lm_arM (by omega)); omega)
    | ((with_reducible apply lm_wA); exact rfl; omega)
    | ((with_reducible apply lm_wJ); exact rfl; omega)
    | ((with_reducible apply lm_wB); (first | exact rfl | exact lm_arB (by omega) | exact lm_arM (by omega)); omega)
    | ((with_reducible apply lm_sAl); (first | exact rfl | exact lm_arB (by omega) | exact lm_arM (by omega)); omega)
    | ((with_reducible apply lm_iW); decide))
  refine lm_cI (lm_u49 (d := d) false) ?_
  refine lm_iF (show ¬ ¬ (0 : Int32) = 0 by decide) ?_
  rw [lm_uu]
  exact lm_iW (by decide) rfl
theorem lm_st17f (h : lm_Fre m) : lm_StpZ (lm_sc xs) 37 38 [.int v, .int w] m n x := by
  intro r hr
  have hx := lm_rm_room hr
  rcases lm_range v (n := 11) (by omega) with ⟨s, hs, e⟩ | e
  · subst e
    by_cases c : Int32.ofInt (-1) ≤ w ∧ w ≤ Int32.ofInt 12
    · obtain ⟨m1, f1, c1⟩ := lm_u121c (xs := xs) (d := 596) (n := n) h hs c hx
      obtain ⟨m2, f2, c2⟩ := lm_u38c (sc := lm_sc xs) (d := 598) (m := m1) (n := n) (x := lm_xx 16 x) (s := s) (fun i hi => by rw [f1.2.2.2 214 (by decide) (by decide)]; exact (h.2.2 i hi).2) hs c
      obtain ⟨t1, t2⟩ := h.tie.slh (n := n) f1 f2 rfl
      exact ⟨3, false, _, _, _, _, _, lm_v37_16 hx c1, c2, lm_u_eq, fun h => absurd h (by decide), t1, t2, lm_rm_xx hr⟩
    · exact ⟨1, false, _, _, _, _, _, lm_v37_13 hx (lm_u121b (d := 596) hs c hx), lm_u38b (d := 598) hs c, lm_u_eq, fun h => absurd h (by decide), h.tie.cod, lm_kpc, lm_rm_xx hr⟩
  · exact ⟨1, false, _, _, _, _, _, lm_v37_13 hx (lm_u121a (d := 596) e hx), lm_u38a (d := 598) e, lm_u_eq, fun h => absurd h (by decide), h.tie.cod, lm_kpc, lm_rm_xx hr⟩
end LMSR
