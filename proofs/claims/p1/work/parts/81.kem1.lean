/-! ===== kemKeys, kemWrap, kemOpen: the refusals ===== -/
section LMKR
variable {sc : lm_H} {d s l : Nat} {m : lm_MI} {n : lm_ML} {x : lm_H × Nat × Nat} {v : Int32}
theorem lm_u67a (h : ¬ ((0 : Int32) ≤ v ∧ v ≤ Int32.ofNat 2)) (hr : lm_rom x) : lm_cal sc (d + 2) 67 [.ref 0, .int v] (lm_w m n x) = some (.error (lm_xp x), lm_w m n (lm_xx 13 x)) := by
  refine lm_cal_of (Y := lm_m67) rfl rfl (lm_e67_0 ?_)
  unfold lm_q67_0
  exact lm_cVe (lm_u132e (d := d) (k := 2) h hr)
theorem lm_u67b (hs : s ≤ 2) (h : m 26 1 = Int32.ofNat l) (hl : l ≤ 65536) (h64 : l ≠ 64) (hr : lm_rom x) : lm_cal sc (d + 2) 67 [.ref 0, .int (Int32.ofNat s)] (lm_w m n x) = some (.error (lm_xp x), lm_w m n (lm_xx 14 x)) := by
  refine lm_cal_of (Y := lm_m67) rfl rfl (lm_e67_0 ?_)
  unfold lm_q67_0
  refine lm_cV (lm_t132n (i := s) (d := d) (n := 2) hs (by omega)) ?_
  rw [lm_K0, lm_K64]
  repeat (first
    | ((with_reducible apply lm_sI); exact rfl)
    | ((with_reducible apply lm_sR); exact rfl)
    | ((with_reducible apply lm_sS); exact rfl; exact rfl)
    | ((with_reducible apply lm_sL); exact rfl)
    | ((with_reducible apply lm_sP); exact rfl; exact rfl)
    | ((with_reducible apply lm_sPL); exact rfl; exact rfl)
    | ((with_reducible apply lm_sAA); exact rfl; first | exact rfl | exact lm_roO (by omega) | exact lm_roM (by omega))
    | ((with_reducible apply lm_sI); exact lm_fpL (by omega))
    | ((with_reducible apply lm_sR); exact lm_fpB (by omega))
    | ((with_reducible apply lm_sP); exact lm_fpL (by omega); exact rfl)
    | ((with_reducible apply lm_sS); exact lm_ocO (by omega); exact rfl)
    | ((with_reducible apply lm_sA); exact rfl; omega)
    | ((with_reducible apply lm_sJ); exact rfl; omega)
    | ((with_reducible apply lm_sB); (first | exact rfl | exact lm_arB (by omega) | exact lm_arM (by omega)); omega)
    | ((with_reducible apply lm_wA); exact rfl; omega)
    | ((with_reducible apply lm_wJ); exact rfl; omega)
    | ((with_reducible apply lm_wB); (first | exact rfl | exact lm_arB (by omega) | exact lm_arM (by omega)); omega)
    | ((with_reducible apply lm_sAl); (first | exact rfl | exact lm_arB (by omega) | exact lm_arM (by omega)); omega)
    | ((with_reducible apply lm_iW); decide))
  simp only [Nat.reduceDiv, Nat.reduceMod, h]
  refine lm_neT (by omega) (by omega) h64 ?_
  refine lm_e67_25 ?_
  unfold lm_q67_25
  exact lm_cVe (lm_u150e hr)
theorem lm_u22a (h : ¬ ((0 : Int32) ≤ v ∧ v ≤ Int32.ofNat 2)) : lm_cal sc (d + 2) 22 [.ref 203, .int v] (lm_w m n x) = some (.ok (some (.int 0)), lm_w (lm_u m 203 4 1) n x) := by
  refine lm_cal_of (Y := lm_m22) rfl rfl (lm_e22_0 ?_)
  unfold lm_q22_0
  refine lm_cI (lm_t52f (d := d) h) ?_
  repeat (first
    | ((with_reducible apply lm_sI); exact rfl)
    | ((with_reducible apply lm_sR); exact rfl)
    | ((with_reducible apply lm_sS); exact rfl; exact rfl)
    | ((with_reducible apply lm_sL); exact rfl)
    | ((with_reducible apply lm_sP); exact rfl; exact rfl)
    | ((with_reducible apply lm_sPL); exact rfl; exact rfl)
    | ((with_reducible apply lm_sAA); exact rfl; first | exact rfl | exact lm_roO (by omega) | exact lm_roM (by omega))
    | ((with_reducible apply lm_sI); exact lm_fpL (by omega))
    | ((with_reducible apply lm_sR); exact lm_fpB (by omega))
    | ((with_reducible apply lm_sP); exact lm_fpL (by omega); exact rfl)
    | ((with_reducible apply lm_sS); exact lm_ocO (by omega); exact rfl)
    | ((with_reducible apply lm_sA); exact rfl; omega)
    | ((with_reducible apply lm_sJ); exact rfl; omega)
    | ((with_reducible apply lm_sB); (first | exact rfl | exact lm_arB (by omega) | exact lm_arM (by omega)); omega)
    | ((with_reducible apply lm_wA); exact rfl; omega)
    | ((with_reducible apply lm_wJ); exact rfl; omega)
    | ((with_reducible apply lm_wB); (first | exact rfl | exact lm_arB (by omega) | exact lm_arM (by omega)); omega)
    | ((with_reducible apply lm_sAl); (first | exact rfl | exact lm_arB (by omega) | exact lm_arM (by omega)); omega)
    | ((with_reducible apply lm_iW); decide))
  refine lm_cI (lm_u49 (d := d) false) ?_
  refine lm_iT (show (0 : Int32) = 0 by decide) ?_
  exact rfl
theorem lm_u22b (hs : s ≤ 2) (h : m 214 0 = Int32.ofNat l) (hl : l ≤ 65536) (h64 : l ≠ 64) : lm_cal sc (d + 2) 22 [.ref 203, .int (Int32.ofNat s)] (lm_w m n x) = some (.ok (some (.int 0)), lm_w (lm_u m 203 4 2) n x) := by
  refine lm_cal_of (Y := lm_m22) rfl rfl (lm_e22_0 ?_)
  unfold lm_q22_0
  refine lm_cI (lm_t52n (i := s) (d := d) (n := 2) hs (by omega)) ?_
  repeat (first
    | ((with_reducible apply lm_sI); exact rfl)
    | ((with_reducible apply lm_sR); exact rfl)
    | ((with_reducible apply lm_sS); exact rfl; exact rfl)
    | ((with_reducible apply lm_sL); exact rfl)
    | ((with_reducible apply lm_sP); exact rfl; exact rfl)
    | ((with_reducible apply lm_sPL); exact rfl; exact rfl)
    | ((with_reducible apply lm_sAA); exact rfl; first | exact rfl | exact lm_roO (by omega) | exact lm_roM (by omega))
    | ((with_reducible apply lm_sI); exact lm_fpL (by omega))
    | ((with_reducible apply lm_sR); exact lm_fpB (by omega))
    | ((with_reducible apply lm_sP); exact lm_fpL (by omega); exact rfl)
    | ((with_reducible apply lm_sS); exact lm_ocO (by omega); exact rfl)
    | ((with_reducible apply lm_sA); exact rfl; omega)
    | ((with_reducible apply lm_sJ); exact rfl; omega)
    | ((with_reducible apply lm_sB); (first | exact rfl | exact lm_arB (by omega) | exact lm_arM (by omega)); omega)
    | ((with_reducible apply lm_wA); exact rfl; omega)
    | ((with_reducible apply lm_wJ); exact rfl; omega)
    | ((with_reducible apply lm_wB); (first | exact rfl | exact lm_arB (by omega) | exact lm_arM (by omega)); omega)
    | ((with_reducible apply lm_sAl); (first | exact rfl | exact lm_arB (by omega) | exact lm_arM (by omega)); omega)
    | ((with_reducible apply lm_iW); decide))
  refine lm_cI (lm_u49 (d := d) true) ?_
  refine lm_iF (show ¬ (1 : Int32) = 0 by decide) ?_
  rw [lm_K0, lm_K64]
  repeat (first
    | ((with_reducible apply lm_sI); exact rfl)
    | ((with_reducible apply lm_sR); exact rfl)
    | ((with_reducible apply lm_sS); exact rfl; exact rfl)
    | ((with_reducible apply lm_sL); exact rfl)
    | ((with_reducible apply lm_sP); exact rfl; exact rfl)
    | ((with_reducible apply lm_sPL); exact rfl; exact rfl)
    | ((with_reducible apply lm_sAA); exact rfl; first | exact rfl | exact lm_roO (by omega) | exact lm_roM (by omega))
    | ((with_reducible apply lm_sI); exact lm_fpL (by omega))
    | ((with_reducible apply lm_sR); exact lm_fpB (by omega))
    | ((with_reducible apply lm_sP); exact lm_fpL (by omega); exact rfl)
    | ((with_reducible apply lm_sS); exact lm_ocO (by omega); exact rfl)
    | ((with_reducible apply lm_sA); exact rfl; omega)
    | ((with_reducible apply lm_sJ); exact rfl; omega)
    | ((with_reducible apply lm_sB); (first | exact rfl | exact lm_arB (by omega) | exact lm_arM (by omega)); omega)
    | ((with_reducible apply lm_wA); exact rfl; omega)
    | ((with_reducible apply lm_wJ); exact rfl; omega)
    | ((with_reducible apply lm_wB); (first | exact rfl | exact lm_arB (by omega) | exact lm_arM (by omega)); omega)
    | ((with_reducible apply lm_sAl); (first | exact rfl | exact lm_arB (by omega) | exact lm_arM (by omega)); omega)
    | ((with_reducible apply lm_iW); decide))
  rw [show lm_u m 203 4 (cond true 0 (Int32.ofInt 1)) 214 0 = Int32.ofNat l by rw [lm_u_row (by decide), h]]
  refine lm_neT (by omega) (by omega) h64 ?_
  refine lm_e22_31 ?_
  unfold lm_q22_31
  repeat (first
    | ((with_reducible apply lm_sI); exact rfl)
    | ((with_reducible apply lm_sR); exact rfl)
    | ((with_reducible apply lm_sS); exact rfl; exact rfl)
    | ((with_reducible apply lm_sL); exact rfl)
    | ((with_reducible apply lm_sP); exact rfl; exact rfl)
    | ((with_reducible apply lm_sPL); exact rfl; exact rfl)
    | ((with_reducible apply lm_sAA); exact rfl; first | exact rfl | exact lm_roO (by omega) | exact lm_roM (by omega))
    | ((with_reducible apply lm_sI); exact lm_fpL (by omega))
    | ((with_reducible apply lm_sR); exact lm_fpB (by omega))
    | ((with_reducible apply lm_sP); exact lm_fpL (by omega); exact rfl)
    | ((with_reducible apply lm_sS); exact lm_ocO (by omega); exact rfl)
    | ((with_reducible apply lm_sA); exact rfl; omega)
    | ((with_reducible apply lm_sJ); exact rfl; omega)
    | ((with_reducible apply lm_sB); (first | exact rfl | exact lm_arB (by omega) | exact lm_arM (by omega)); omega)
    | ((with_reducible apply lm_wA); exact rfl; omega)
    | ((with_reducible apply lm_wJ); exact rfl; omega)
    | ((with_reducible apply lm_wB); (first | exact rfl | exact lm_arB (by omega) | exact lm_arM (by omega)); omega)
    | ((with_reducible apply lm_sAl); (first | exact rfl | exact lm_arB (by omega) | exact lm_arM (by omega)); omega)
    | ((with_reducible apply lm_iW); decide))
  refine lm_cI (lm_u49 (d := d) false) ?_
  refine lm_iF (show ¬ ¬ (0 : Int32) = 0 by decide) ?_
  rw [lm_uu]
  exact rfl
theorem lm_u76a (h : ¬ ((0 : Int32) ≤ v ∧ v ≤ Int32.ofNat 2)) (hr : lm_rom x) : lm_cal sc (d + 2) 76 [.ref 0, .int v] (lm_w m n x) = some (.error (lm_xp x), lm_w m n (lm_xx 13 x)) := by
  refine lm_cal_of (Y := lm_m76) rfl rfl (lm_e76_0 ?_)
  unfold lm_q76_0
  exact lm_cVe (lm_u132e (d := d) (k := 2) h hr)
theorem lm_u76b (hs : s ≤ 2) (h : m 26 1 = Int32.ofNat l) (hl : l ≤ 65536) (h64 : l ≠ 32) (hr : lm_rom x) : lm_cal sc (d + 2) 76 [.ref 0, .int (Int32.ofNat s)] (lm_w m n x) = some (.error (lm_xp x), lm_w m n (lm_xx 14 x)) := by
  refine lm_cal_of (Y := lm_m76) rfl rfl (lm_e76_0 ?_)
  unfold lm_q76_0
  refine lm_cV (lm_t132n (i := s) (d := d) (n := 2) hs (by omega)) ?_
  rw [lm_K0, lm_K32]
  repeat (first
    | ((with_reducible apply lm_sI); exact rfl)
    | ((with_reducible apply lm_sR); exact rfl)
    | ((with_reducible apply lm_sS); exact rfl; exact rfl)
    | ((with_reducible apply lm_sL); exact rfl)
    | ((with_reducible apply lm_sP); exact rfl; exact rfl)
    | ((with_reducible apply lm_sPL); exact rfl; exact rfl)
    | ((with_reducible apply lm_sAA); exact rfl; first | exact rfl | exact lm_roO (by omega) | exact lm_roM (by omega))
    | ((with_reducible apply lm_sI); exact lm_fpL (by omega))
    | ((with_reducible apply lm_sR); exact lm_fpB (by omega))
    | ((with_reducible apply lm_sP); exact lm_fpL (by omega); exact rfl)
    | ((with_reducible apply lm_sS); exact lm_ocO (by omega); exact rfl)
    | ((with_reducible apply lm_sA); exact rfl; omega)
    | ((with_reducible apply lm_sJ); exact rfl; omega)
    | ((with_reducible apply lm_sB); (first | exact rfl | exact lm_arB (by omega) | exact lm_arM (by omega)); omega)
    | ((with_reducible apply lm_wA); exact rfl; omega)
    | ((with_reducible apply lm_wJ); exact rfl; omega)
    | ((with_reducible apply lm_wB); (first | exact rfl | exact lm_arB (by omega) | exact lm_arM (by omega)); omega)
    | ((with_reducible apply lm_sAl); (first | exact rfl | exact lm_arB (by omega) | exact lm_arM (by omega)); omega)
    | ((with_reducible apply lm_iW); decide))
  simp only [Nat.reduceDiv, Nat.reduceMod, h]
  refine lm_neT (by omega) (by omega) h64 ?_
  refine lm_e76_25 ?_
  unfold lm_q76_25
  exact lm_cVe (lm_u150e hr)
theorem lm_u24a (h : ¬ ((0 : Int32) ≤ v ∧ v ≤ Int32.ofNat 2)) : lm_cal sc (d + 2) 24 [.ref 203, .int v] (lm_w m n x) = some (.ok (some (.int 0)), lm_w (lm_u m 203 4 1) n x) := by
  refine lm_cal_of (Y := lm_m24) rfl rfl (lm_e24_0 ?_)
  unfold lm_q24_0
  refine lm_cI (lm_t52f (d := d) h) ?_
  repeat (first
    | ((with_reducible apply lm_sI); exact rfl)
    | ((with_reducible apply lm_sR); exact rfl)
    | ((with_reducible apply lm_sS); exact rfl; exact rfl)
    | ((with_reducible apply lm_sL); exact rfl)
    | ((with_reducible apply lm_sP); exact rfl; exact rfl)
    | ((with_reducible apply lm_sPL); exact rfl; exact rfl)
    | ((with_reducible apply lm_sAA); exact rfl; first | exact rfl | exact lm_roO (by omega) | exact lm_roM (by omega))
    | ((with_reducible apply lm_sI); exact lm_fpL (by omega))
    | ((with_reducible apply lm_sR); exact lm_fpB (by omega))
    | ((with_reducible apply lm_sP); exact lm_fpL (by omega); exact rfl)
    | ((with_reducible apply lm_sS); exact lm_ocO (by omega); exact rfl)
    | ((with_reducible apply lm_sA); exact rfl; omega)
    | ((with_reducible apply lm_sJ); exact rfl; omega)
    | ((with_reducible apply lm_sB); (first | exact rfl | exact lm_arB (by omega) | exact lm_arM (by omega)); omega)
    | ((with_reducible apply lm_wA); exact rfl; omega)
    | ((with_reducible apply lm_wJ); exact rfl; omega)
    | ((with_reducible apply lm_wB); (first | exact rfl | exact lm_arB (by omega) | exact lm_arM (by omega)); omega)
    | ((with_reducible apply lm_sAl); (first | exact rfl | exact lm_arB (by omega) | exact lm_arM (by omega)); omega)
    | ((with_reducible apply lm_iW); decide))
  refine lm_cI (lm_u49 (d := d) false) ?_
  refine lm_iT (show (0 : Int32) = 0 by decide) ?_
  exact rfl
theorem lm_u24b (hs : s ≤ 2) (h : m 214 0 = Int32.ofNat l) (hl : l ≤ 65536) (h64 : l ≠ 32) : lm_cal sc (d + 2) 24 [.ref 203, .int (Int32.ofNat s)] (lm_w m n x) = some (.ok (some (.int 0)), lm_w (lm_u m 203 4 2) n x) := by
  refine lm_cal_of (Y := lm_m24) rfl rfl (lm_e24_0 ?_)
  unfold lm_q24_0
  refine lm_cI (lm_t52n (i := s) (d := d) (n := 2) hs (by omega)) ?_
  repeat (first
    | ((with_reducible apply lm_sI); exact rfl)
    | ((with_reducible apply lm_sR); exact rfl)
    | ((with_reducible apply lm_sS); exact rfl; exact rfl)
    | ((with_reducible apply lm_sL); exact rfl)
    | ((with_reducible apply lm_sP); exact rfl; exact rfl)
    | ((with_reducible apply lm_sPL); exact rfl; exact rfl)
    | ((with_reducible apply lm_sAA); exact rfl; first | exact rfl | exact lm_roO (by omega) | exact lm_roM (by omega))
    | ((with_reducible apply lm_sI); exact lm_fpL (by omega))
    | ((with_reducible apply lm_sR); exact lm_fpB (by omega))
    | ((with_reducible apply lm_sP); exact lm_fpL (by omega); exact rfl)
    | ((with_reducible apply lm_sS); exact lm_ocO (by omega); exact rfl)
    | ((with_reducible apply lm_sA); exact rfl; omega)
    | ((with_reducible apply lm_sJ); exact rfl; omega)
    | ((with_reducible apply lm_sB); (first | exact rfl | exact lm_arB (by omega) | exact lm_arM (by omega)); omega)
    | ((with_reducible apply lm_wA); exact rfl; omega)
    | ((with_reducible apply lm_wJ); exact rfl; omega)
    | ((with_reducible apply lm_wB); (first | exact rfl | exact lm_arB (by omega) | exact lm_arM (by omega)); omega)
    | ((with_reducible apply lm_sAl); (first | exact rfl | exact lm_arB (by omega) | exact lm_arM (by omega)); omega)
    | ((with_reducible apply lm_iW); decide))
  refine lm_cI (lm_u49 (d := d) true) ?_
  refine lm_iF (show ¬ (1 : Int32) = 0 by decide) ?_
  rw [lm_K0, lm_K32]
  repeat (first
    | ((with_reducible apply lm_sI); exact rfl)
    | ((with_reducible apply lm_sR); exact rfl)
    | ((with_reducible apply lm_sS); exact rfl; exact rfl)
    | ((with_reducible apply lm_sL); exact rfl)
    | ((with_reducible apply lm_sP); exact rfl; exact rfl)
    | ((with_reducible apply lm_sPL); exact rfl; exact rfl)
    | ((with_reducible apply lm_sAA); exact rfl; first | exact rfl | exact lm_roO (by omega) | exact lm_roM (by omega))
    | ((with_reducible apply lm_sI); exact lm_fpL (by omega))
    | ((with_reducible apply lm_sR); exact lm_fpB (by omega))
    | ((with_reducible apply lm_sP); exact lm_fpL (by omega); exact rfl)
    | ((with_reducible apply lm_sS); exact lm_ocO (by omega); exact rfl)
    | ((with_reducible apply lm_sA); exact rfl; omega)
    | ((with_reducible apply lm_sJ); exact rfl; omega)
    | ((with_reducible apply lm_sB); (first | exact rfl | exact lm_arB (by omega) | exact lm_arM (by omega)); omega)
    | ((with_reducible apply lm_wA); exact rfl; omega)
    | ((with_reducible apply lm_wJ); exact rfl; omega)
    | ((with_reducible apply lm_wB); (first | exact rfl | exact lm_arB (by omega) | exact lm_arM (by omega)); omega)
    | ((with_reducible apply lm_sAl); (first | exact rfl | exact lm_arB (by omega) | exact lm_arM (by omega)); omega)
    | ((with_reducible apply lm_iW); decide))
  rw [show lm_u m 203 4 (cond true 0 (Int32.ofInt 1)) 214 0 = Int32.ofNat l by rw [lm_u_row (by decide), h]]
  refine lm_neT (by omega) (by omega) h64 ?_
  refine lm_e24_31 ?_
  unfold lm_q24_31
  repeat (first
    | ((with_reducible apply lm_sI); exact rfl)
    | ((with_reducible apply lm_sR); exact rfl)
    | ((with_reducible apply lm_sS); exact rfl; exact rfl)
    | ((with_reducible apply lm_sL); exact rfl)
    | ((with_reducible apply lm_sP); exact rfl; exact rfl)
    | ((with_reducible apply lm_sPL); exact rfl; exact rfl)
    | ((with_reducible apply lm_sAA); exact rfl; first | exact rfl | exact lm_roO (by omega) | exact lm_roM (by omega))
    | ((with_reducible apply lm_sI); exact lm_fpL (by omega))
    | ((with_reducible apply lm_sR); exact lm_fpB (by omega))
    | ((with_reducible apply lm_sP); exact lm_fpL (by omega); exact rfl)
    | ((with_reducible apply lm_sS); exact lm_ocO (by omega); exact rfl)
    | ((with_reducible apply lm_sA); exact rfl; omega)
    | ((with_reducible apply lm_sJ); exact rfl; omega)
    | ((with_reducible apply lm_sB); (first | exact rfl | exact lm_arB (by omega) | exact lm_arM (by omega)); omega)
    | ((with_reducible apply lm_wA); exact rfl; omega)
    | ((with_reducible apply lm_wJ); exact rfl; omega)
    | ((with_reducible apply lm_wB); (first | exact rfl | exact lm_arB (by omega) | exact lm_arM (by omega)); omega)
    | ((with_reducible apply lm_sAl); (first | exact rfl | exact lm_arB (by omega) | exact lm_arM (by omega)); omega)
    | ((with_reducible apply lm_iW); decide))
  refine lm_cI (lm_u49 (d := d) false) ?_
  refine lm_iF (show ¬ ¬ (0 : Int32) = 0 by decide) ?_
  rw [lm_uu]
  exact rfl
/-! open -/
def lm_kps (s : Nat) : Nat := 32 * (lm_ku s * (s + 2) + lm_kv s)
/-- the memory behind the class's choice -/
def lm_ck (m : lm_MI) (s : Nat) : lm_MI := lm_u (lm_u (lm_u (lm_u m 44 12 (Int32.ofNat (s + 2))) 44 13 (Int32.ofNat (lm_ke s))) 44 14 (Int32.ofNat (lm_ku s))) 44 15 (Int32.ofNat (lm_kv s))
theorem lm_ck_row {q : Nat} (h : q ≠ 44) : lm_ck m s q = m q := by
  unfold lm_ck
  rw [lm_u_row h, lm_u_row h, lm_u_row h, lm_u_row h]
theorem lm_km2_row {q : Nat} (h : q ≠ 203) (h2 : q ≠ 231) : lm_km2 m s q = m q := by
  unfold lm_km2
  rw [lm_fl_row h2, lm_u_row h, lm_u_row h, lm_u_row h, lm_u_row h]
theorem lm_u229 : lm_cal sc (d + 1) 229 [.ref 44] (lm_w (lm_ck m s) n x) = some (.ok (some (.int (Int32.ofNat (lm_kps s)))), lm_w (lm_ck m s) n x) := by
  refine lm_cal_of (Y := lm_m229) rfl rfl (lm_e229_0 ?_)
  unfold lm_q229_0
  repeat (first
    | ((with_reducible apply lm_sI); exact rfl)
    | ((with_reducible apply lm_sR); exact rfl)
    | ((with_reducible apply lm_sS); exact rfl; exact rfl)
    | ((with_reducible apply lm_sL); exact rfl)
    | ((with_reducible apply lm_sP); exact rfl; exact rfl)
    | ((with_reducible apply lm_sPL); exact rfl; exact rfl)
    | ((with_reducible apply lm_sAA); exact rfl; first | exact rfl | exact lm_roO (by omega) | exact lm_roM (by omega))
    | ((with_reducible apply lm_sI); exact lm_fpL (by omega))
    | ((with_reducible apply lm_sR); exact lm_fpB (by omega))
    | ((with_reducible apply lm_sP); exact lm_fpL (by omega); exact rfl)
    | ((with_reducible apply lm_sS); exact lm_ocO (by omega); exact rfl)
    | ((with_reducible apply lm_sA); exact rfl; omega)
    | ((with_reducible apply lm_sJ); exact rfl; omega)
    | ((with_reducible apply lm_sB); (first | exact rfl | exact lm_arB (by omega) | exact lm_arM (by omega)); omega)
    | ((with_reducible apply lm_wA); exact rfl; omega)
    | ((with_reducible apply lm_wJ); exact rfl; omega)
    | ((with_reducible apply lm_wB); (first | exact rfl | exact lm_arB (by omega) | exact lm_arM (by omega)); omega)
    | ((with_reducible apply lm_sAl); (first | exact rfl | exact lm_arB (by omega) | exact lm_arM (by omega)); omega)
    | ((with_reducible apply lm_iW); decide))
  simp only [Nat.reduceDiv, Nat.reduceMod, lm_ck, lm_rd, Nat.reduceEqDiff, and_false, and_true, and_self, if_false, if_true, lm_K32, lm_om, lm_oo]
  exact rfl
theorem lm_kps_pos (hs : s ≤ 2) : 768 ≤ lm_kps s ∧ lm_kps s ≤ 1568 := by
  match s, hs with
  | 0, _ => decide
  | 1, _ => decide
  | 2, _ => decide
theorem lm_u79a (h : ¬ ((0 : Int32) ≤ v ∧ v ≤ Int32.ofNat 2)) (hr : lm_rom x) : lm_cal sc (d + 3) 79 [.ref 0, .int v] (lm_w m n x) = some (.error (lm_xp x), lm_w m n (lm_xx 13 x)) := by
  refine lm_cal_of (Y := lm_m79) rfl rfl (lm_e79_0 ?_)
  unfold lm_q79_0
  exact lm_cVe (lm_u132e (d := d + 1) (k := 2) h hr)
theorem lm_u79b (hs : s ≤ 2) (h : m 36 1 = Int32.ofNat l) (hl : l ≤ 65536) (hn : l ≠ lm_kps s) (hr : lm_rom x) : lm_cal sc (d + 3) 79 [.ref 0, .int (Int32.ofNat s)] (lm_w m n x) = some (.error (lm_xp x), lm_w (lm_ck m s) n (lm_xx 16 x)) := by
  have hp := lm_kps_pos hs
  refine lm_cal_of (Y := lm_m79) rfl rfl (lm_e79_0 ?_)
  unfold lm_q79_0
  refine lm_cV (lm_t132n (i := s) (d := d + 1) (n := 2) hs (by omega)) ?_
  repeat (first
    | ((with_reducible apply lm_sI); exact rfl)
    | ((with_reducible apply lm_sR); exact rfl)
    | ((with_reducible apply lm_sS); exact rfl; exact rfl)
    | ((with_reducible apply lm_sL); exact rfl)
    | ((with_reducible apply lm_sP); exact rfl; exact rfl)
    | ((with_reducible apply lm_sPL); exact rfl; exact rfl)
    | ((with_reducible apply lm_sAA); exact rfl; first | exact rfl | exact lm_roO (by omega) | exact lm_roM (by omega))
    | ((with_reducible apply lm_sI); exact lm_fpL (by omega))
    | ((with_reducible apply lm_sR); exact lm_fpB (by omega))
    | ((with_reducible apply lm_sP); exact lm_fpL (by omega); exact rfl)
    | ((with_reducible apply lm_sS); exact lm_ocO (by omega); exact rfl)
    | ((with_reducible apply lm_sA); exact rfl; omega)
    | ((with_reducible apply lm_sJ); exact rfl; omega)
    | ((with_reducible apply lm_sB); (first | exact rfl | exact lm_arB (by omega) | exact lm_arM (by omega)); omega)
    | ((with_reducible apply lm_wA); exact rfl; omega)
    | ((with_reducible apply lm_wJ); exact rfl; omega)
    | ((with_reducible apply lm_wB); (first | exact rfl | exact lm_arB (by omega) | exact lm_arM (by omega)); omega)
    | ((with_reducible apply lm_sAl); (first | exact rfl | exact lm_arB (by omega) | exact lm_arM (by omega)); omega)
    | ((with_reducible apply lm_iW); decide))
  refine lm_cV (show lm_cal sc (d + 2) 151 [.ref 44, .int (Int32.ofNat s)] (lm_w m n x) = some (.ok none, lm_w (lm_ck m s) n x) from lm_u151 (d := d + 1) hs) ?_
  rw [lm_K5]
  repeat (first
    | ((with_reducible apply lm_sI); exact rfl)
    | ((with_reducible apply lm_sR); exact rfl)
    | ((with_reducible apply lm_sS); exact rfl; exact rfl)
    | ((with_reducible apply lm_sL); exact rfl)
    | ((with_reducible apply lm_sP); exact rfl; exact rfl)
    | ((with_reducible apply lm_sPL); exact rfl; exact rfl)
    | ((with_reducible apply lm_sAA); exact rfl; first | exact rfl | exact lm_roO (by omega) | exact lm_roM (by omega))
    | ((with_reducible apply lm_sI); exact lm_fpL (by omega))
    | ((with_reducible apply lm_sR); exact lm_fpB (by omega))
    | ((with_reducible apply lm_sP); exact lm_fpL (by omega); exact rfl)
    | ((with_reducible apply lm_sS); exact lm_ocO (by omega); exact rfl)
    | ((with_reducible apply lm_sA); exact rfl; omega)
    | ((with_reducible apply lm_sJ); exact rfl; omega)
    | ((with_reducible apply lm_sB); (first | exact rfl | exact lm_arB (by omega) | exact lm_arM (by omega)); omega)
    | ((with_reducible apply lm_wA); exact rfl; omega)
    | ((with_reducible apply lm_wJ); exact rfl; omega)
    | ((with_reducible apply lm_wB); (first | exact rfl | exact lm_arB (by omega) | exact lm_arM (by omega)); omega)
    | ((with_reducible apply lm_sAl); (first | exact rfl | exact lm_arB (by omega) | exact lm_arM (by omega)); omega)
    | ((with_reducible apply lm_iW); decide))
  refine lm_cI (v := 0) (σ' := lm_w (lm_ck m s) n x) ?_ ?_
  · refine lm_cal_of (Y := lm_m162) rfl rfl (lm_e162_0 ?_)
    unfold lm_q162_0
    repeat (first
    | ((with_reducible apply lm_sI); exact rfl)
    | ((with_reducible apply lm_sR); exact rfl)
    | ((with_reducible apply lm_sS); exact rfl; exact rfl)
    | ((with_reducible apply lm_sL); exact rfl)
    | ((with_reducible apply lm_sP); exact rfl; exact rfl)
    | ((with_reducible apply lm_sPL); exact rfl; exact rfl)
    | ((with_reducible apply lm_sAA); exact rfl; first | exact rfl | exact lm_roO (by omega) | exact lm_roM (by omega))
    | ((with_reducible apply lm_sI); exact lm_fpL (by omega))
    | ((with_reducible apply lm_sR); exact lm_fpB (by omega))
    | ((with_reducible apply lm_sP); exact lm_fpL (by omega); exact rfl)
    | ((with_reducible apply lm_sS); exact lm_ocO (by omega); exact rfl)
    | ((with_reducible apply lm_sA); exact rfl; omega)
    | ((with_reducible apply lm_sJ); exact rfl; omega)
    | ((with_reducible apply lm_sB); (first | exact rfl | exact lm_arB (by omega) | exact lm_arM (by omega)); omega)
    | ((with_reducible apply lm_wA); exact rfl; omega)
    | ((with_reducible apply lm_wJ); exact rfl; omega)
    | ((with_reducible apply lm_wB); (first | exact rfl | exact lm_arB (by omega) | exact lm_arM (by omega)); omega)
    | ((with_reducible apply lm_sAl); (first | exact rfl | exact lm_arB (by omega) | exact lm_arM (by omega)); omega)
    | ((with_reducible apply lm_iW); decide))
    refine lm_cI (lm_u229 (m := m) (s := s) (d := d)) ?_
    rw [show lm_ck m s 36 (404 / 4 % 100) = Int32.ofNat l by rw [lm_ck_row (by decide)]; exact h]
    refine lm_neT (by omega) (by omega) hn ?_
    exact lm_iW (by decide) rfl
  refine lm_iT (show (0 : Int32) = 0 by decide) ?_
  refine lm_e79_50 ?_
  unfold lm_q79_50
  refine lm_e79_51 ?_
  unfold lm_q79_51
  exact lm_cVe (lm_u160e hr)
theorem lm_u26a (h : ¬ ((0 : Int32) ≤ v ∧ v ≤ Int32.ofNat 2)) : lm_cal sc (d + 2) 26 [.ref 203, .int v] (lm_w m n x) = some (.ok (some (.int 0)), lm_w (lm_u m 203 4 1) n x) := by
  refine lm_cal_of (Y := lm_m26) rfl rfl (lm_e26_0 ?_)
  unfold lm_q26_0
  refine lm_cI (lm_t52f (d := d) h) ?_
  repeat (first
    | ((with_reducible apply lm_sI); exact rfl)
    | ((with_reducible apply lm_sR); exact rfl)
    | ((with_reducible apply lm_sS); exact rfl; exact rfl)
    | ((with_reducible apply lm_sL); exact rfl)
    | ((with_reducible apply lm_sP); exact rfl; exact rfl)
    | ((with_reducible apply lm_sPL); exact rfl; exact rfl)
    | ((with_reducible apply lm_sAA); exact rfl; first | exact rfl | exact lm_roO (by omega) | exact lm_roM (by omega))
    | ((with_reducible apply lm_sI); exact lm_fpL (by omega))
    | ((with_reducible apply lm_sR); exact lm_fpB (by omega))
    | ((with_reducible apply lm_sP); exact lm_fpL (by omega); exact rfl)
    | ((with_reducible apply lm_sS); exact lm_ocO (by omega); exact rfl)
    | ((with_reducible apply lm_sA); exact rfl; omega)
    | ((with_reducible apply lm_sJ); exact rfl; omega)
    | ((with_reducible apply lm_sB); (first | exact rfl | exact lm_arB (by omega) | exact lm_arM (by omega)); omega)
    | ((with_reducible apply lm_wA); exact rfl; omega)
    | ((with_reducible apply lm_wJ); exact rfl; omega)
    | ((with_reducible apply lm_wB); (first | exact rfl | exact lm_arB (by omega) | exact lm_arM (by omega)); omega)
    | ((with_reducible apply lm_sAl); (first | exact rfl | exact lm_arB (by omega) | exact lm_arM (by omega)); omega)
    | ((with_reducible apply lm_iW); decide))
  refine lm_cI (lm_u49 (d := d) false) ?_
  refine lm_iF (show ¬ ¬ (0 : Int32) = 0 by decide) ?_
  exact rfl
theorem lm_u26b (hs : s ≤ 2) (h : m 214 5 = Int32.ofNat l) (hl : l ≤ 65536) (hn : l ≠ lm_kps s) : lm_cal sc (d + 2) 26 [.ref 203, .int (Int32.ofNat s)] (lm_w m n x) = some (.ok (some (.int 0)), lm_w (lm_u (lm_km2 (lm_u m 203 4 0) s) 203 4 2) n x) := by
  have hp := lm_kps_pos hs
  have f32 : ∀ m : lm_MI, lm_km2 m s 203 32 = Int32.ofNat (s + 2) := fun m => by unfold lm_km2; rw [lm_fl_row (by decide)]; simp [lm_rd]
  have f34 : ∀ m : lm_MI, lm_km2 m s 203 34 = Int32.ofNat (lm_ku s) := fun m => by unfold lm_km2; rw [lm_fl_row (by decide)]; simp [lm_rd]
  have f35 : ∀ m : lm_MI, lm_km2 m s 203 35 = Int32.ofNat (lm_kv s) := fun m => by unfold lm_km2; rw [lm_fl_row (by decide)]; simp [lm_rd]
  refine lm_cal_of (Y := lm_m26) rfl rfl (lm_e26_0 ?_)
  unfold lm_q26_0
  refine lm_cI (lm_t52n (i := s) (d := d) (n := 2) hs (by omega)) ?_
  repeat (first
    | ((with_reducible apply lm_sI); exact rfl)
    | ((with_reducible apply lm_sR); exact rfl)
    | ((with_reducible apply lm_sS); exact rfl; exact rfl)
    | ((with_reducible apply lm_sL); exact rfl)
    | ((with_reducible apply lm_sP); exact rfl; exact rfl)
    | ((with_reducible apply lm_sPL); exact rfl; exact rfl)
    | ((with_reducible apply lm_sAA); exact rfl; first | exact rfl | exact lm_roO (by omega) | exact lm_roM (by omega))
    | ((with_reducible apply lm_sI); exact lm_fpL (by omega))
    | ((with_reducible apply lm_sR); exact lm_fpB (by omega))
    | ((with_reducible apply lm_sP); exact lm_fpL (by omega); exact rfl)
    | ((with_reducible apply lm_sS); exact lm_ocO (by omega); exact rfl)
    | ((with_reducible apply lm_sA); exact rfl; omega)
    | ((with_reducible apply lm_sJ); exact rfl; omega)
    | ((with_reducible apply lm_sB); (first | exact rfl | exact lm_arB (by omega) | exact lm_arM (by omega)); omega)
    | ((with_reducible apply lm_wA); exact rfl; omega)
    | ((with_reducible apply lm_wJ); exact rfl; omega)
    | ((with_reducible apply lm_wB); (first | exact rfl | exact lm_arB (by omega) | exact lm_arM (by omega)); omega)
    | ((with_reducible apply lm_sAl); (first | exact rfl | exact lm_arB (by omega) | exact lm_arM (by omega)); omega)
    | ((with_reducible apply lm_iW); decide))
  refine lm_cI (lm_u49 (d := d) true) ?_
  refine lm_iT (show ¬ (1 : Int32) = 0 by decide) ?_
  repeat (first
    | ((with_reducible apply lm_sI); exact rfl)
    | ((with_reducible apply lm_sR); exact rfl)
    | ((with_reducible apply lm_sS); exact rfl; exact rfl)
    | ((with_reducible apply lm_sL); exact rfl)
    | ((with_reducible apply lm_sP); exact rfl; exact rfl)
    | ((with_reducible apply lm_sPL); exact rfl; exact rfl)
    | ((with_reducible apply lm_sAA); exact rfl; first | exact rfl | exact lm_roO (by omega) | exact lm_roM (by omega))
    | ((with_reducible apply lm_sI); exact lm_fpL (by omega))
    | ((with_reducible apply lm_sR); exact lm_fpB (by omega))
    | ((with_reducible apply lm_sP); exact lm_fpL (by omega); exact rfl)
    | ((with_reducible apply lm_sS); exact lm_ocO (by omega); exact rfl)
    | ((with_reducible apply lm_sA); exact rfl; omega)
    | ((with_reducible apply lm_sJ); exact rfl; omega)
    | ((with_reducible apply lm_sB); (first | exact rfl | exact lm_arB (by omega) | exact lm_arM (by omega)); omega)
    | ((with_reducible apply lm_wA); exact rfl; omega)
    | ((with_reducible apply lm_wJ); exact rfl; omega)
    | ((with_reducible apply lm_wB); (first | exact rfl | exact lm_arB (by omega) | exact lm_arM (by omega)); omega)
    | ((with_reducible apply lm_sAl); (first | exact rfl | exact lm_arB (by omega) | exact lm_arM (by omega)); omega)
    | ((with_reducible apply lm_iW); decide))
  refine lm_cV (lm_u68 (d := d) hs) ?_
  simp only [lm_K5, lm_K32, lm_K384]
  repeat (first
    | ((with_reducible apply lm_sI); exact rfl)
    | ((with_reducible apply lm_sR); exact rfl)
    | ((with_reducible apply lm_sS); exact rfl; exact rfl)
    | ((with_reducible apply lm_sL); exact rfl)
    | ((with_reducible apply lm_sP); exact rfl; exact rfl)
    | ((with_reducible apply lm_sPL); exact rfl; exact rfl)
    | ((with_reducible apply lm_sAA); exact rfl; first | exact rfl | exact lm_roO (by omega) | exact lm_roM (by omega))
    | ((with_reducible apply lm_sI); exact lm_fpL (by omega))
    | ((with_reducible apply lm_sR); exact lm_fpB (by omega))
    | ((with_reducible apply lm_sP); exact lm_fpL (by omega); exact rfl)
    | ((with_reducible apply lm_sS); exact lm_ocO (by omega); exact rfl)
    | ((with_reducible apply lm_sA); exact rfl; omega)
    | ((with_reducible apply lm_sJ); exact rfl; omega)
    | ((with_reducible apply lm_sB); (first | exact rfl | exact lm_arB (by omega) | exact lm_arM (by omega)); omega)
    | ((with_reducible apply lm_wA); exact rfl; omega)
    | ((with_reducible apply lm_wJ); exact rfl; omega)
    | ((with_reducible apply lm_wB); (first | exact rfl | exact lm_arB (by omega) | exact lm_arM (by omega)); omega)
    | ((with_reducible apply lm_sAl); (first | exact rfl | exact lm_arB (by omega) | exact lm_arM (by omega)); omega)
    | ((with_reducible apply lm_iW); decide))
  simp only [Nat.reduceDiv, Nat.reduceMod, f32, f34, f35, lm_om, lm_oo]
  rw [lm_km2_row (by decide) (by decide), lm_u_row (by decide), h]
  refine lm_neT (by omega) (by unfold lm_kps at hp; omega) hn ?_
  refine lm_e26_82 ?_
  unfold lm_q26_82
  refine lm_e26_83 ?_
  unfold lm_q26_83
  refine lm_iT (show (0 : Int32) = 0 by decide) ?_
  refine lm_e26_146 ?_
  unfold lm_q26_146
  repeat (first
    | ((with_reducible apply lm_sI); exact rfl)
    | ((with_reducible apply lm_sR); exact rfl)
    | ((with_reducible apply lm_sS); exact rfl; exact rfl)
    | ((with_reducible apply lm_sL); exact rfl)
    | ((with_reducible apply lm_sP); exact rfl; exact rfl)
    | ((with_reducible apply lm_sPL); exact rfl; exact rfl)
    | ((with_reducible apply lm_sAA); exact rfl; first | exact rfl | exact lm_roO (by omega) | exact lm_roM (by omega))
    | ((with_reducible apply lm_sI); exact lm_fpL (by omega))
    | ((with_reducible apply lm_sR); exact lm_fpB (by omega))
    | ((with_reducible apply lm_sP); exact lm_fpL (by omega); exact rfl)
    | ((with_reducible apply lm_sS); exact lm_ocO (by omega); exact rfl)
    | ((with_reducible apply lm_sA); exact rfl; omega)
    | ((with_reducible apply lm_sJ); exact rfl; omega)
    | ((with_reducible apply lm_sB); (first | exact rfl | exact lm_arB (by omega) | exact lm_arM (by omega)); omega)
    | ((with_reducible apply lm_wA); exact rfl; omega)
    | ((with_reducible apply lm_wJ); exact rfl; omega)
    | ((with_reducible apply lm_wB); (first | exact rfl | exact lm_arB (by omega) | exact lm_arM (by omega)); omega)
    | ((with_reducible apply lm_sAl); (first | exact rfl | exact lm_arB (by omega) | exact lm_arM (by omega)); omega)
    | ((with_reducible apply lm_iW); decide))
  refine lm_cI (lm_u49 (d := d) false) ?_
  refine lm_iF (show ¬ ¬ (0 : Int32) = 0 by decide) ?_
  exact rfl
/-! the calls on a fresh object -/
theorem lm_st9f (h : lm_Fre m) : lm_Stp sc 21 22 [.int v] m n x := by
  intro r hr
  have hx := lm_rm_room hr
  rcases lm_range v (n := 2) (by omega) with ⟨s, hs, e⟩ | e
  · subst e
    exact ⟨2, 0, _, _, _, _, _, lm_v21_14 hx (lm_u67b (d := 597) hs (h.2.2 0 (by omega)).1 (by omega) (by omega) hx), lm_u22b (d := 598) hs (h.2.2 0 (by omega)).2 (by omega) (by omega), lm_u_eq, fun h => absurd h (by decide), h.tie.cod, lm_kpc, lm_rm_xx hr⟩
  · exact ⟨1, 0, _, _, _, _, _, lm_v21_13 hx (lm_u67a (d := 597) e hx), lm_u22a (d := 598) e, lm_u_eq, fun h => absurd h (by decide), h.tie.cod, lm_kpc, lm_rm_xx hr⟩
theorem lm_st10f (h : lm_Fre m) : lm_Stp sc 23 24 [.int v] m n x := by
  intro r hr
  have hx := lm_rm_room hr
  rcases lm_range v (n := 2) (by omega) with ⟨s, hs, e⟩ | e
  · subst e
    exact ⟨2, 0, _, _, _, _, _, lm_v23_14 hx (lm_u76b (d := 597) hs (h.2.2 0 (by omega)).1 (by omega) (by omega) hx), lm_u24b (d := 598) hs (h.2.2 0 (by omega)).2 (by omega) (by omega), lm_u_eq, fun h => absurd h (by decide), h.tie.cod, lm_kpc, lm_rm_xx hr⟩
  · exact ⟨1, 0, _, _, _, _, _, lm_v23_13 hx (lm_u76a (d := 597) e hx), lm_u24a (d := 598) e, lm_u_eq, fun h => absurd h (by decide), h.tie.cod, lm_kpc, lm_rm_xx hr⟩
/-- the tie is kept where its rows are -/
theorem lm_Tie.rows {m' : lm_MI} (h : lm_Tie m) (e : ∀ q, q ≠ 44 → q ≠ 76 → q ≠ 194 → q ≠ 195 → q ≠ 203 → q ≠ 231 → q ≠ 268 → q ≠ 333 → m' q = m q) (e3 : m' 203 3 = m 203 3) : lm_Tie m' :=
  ⟨h.1.of (by rw [e 2 (by decide) (by decide) (by decide) (by decide) (by decide) (by decide) (by decide) (by decide)]) e3 (e _ (by decide) (by decide) (by decide) (by decide) (by decide) (by decide) (by decide) (by decide)) (e _ (by decide) (by decide) (by decide) (by decide) (by decide) (by decide) (by decide) (by decide)),
   fun i hi => (h.2 i hi).of (by rw [e _ (by omega) (by omega) (by omega) (by omega) (by omega) (by omega) (by omega) (by omega)]) (by rw [e _ (by omega) (by omega) (by omega) (by omega) (by omega) (by omega) (by omega) (by omega)]) (e _ (by omega) (by omega) (by omega) (by omega) (by omega) (by omega) (by omega) (by omega)) (e _ (by omega) (by omega) (by omega) (by omega) (by omega) (by omega) (by omega) (by omega))⟩
theorem lm_kpr {m' : lm_MI} (e : ∀ q, q ≠ 44 → q ≠ 76 → q ≠ 194 → q ≠ 195 → q ≠ 203 → q ≠ 231 → q ≠ 268 → q ≠ 333 → m' q = m q) : lm_kp m n m' n := by
  refine ⟨?_, by rw [e 11 (by decide) (by decide) (by decide) (by decide) (by decide) (by decide) (by decide) (by decide)], by rw [e 17 (by decide) (by decide) (by decide) (by decide) (by decide) (by decide) (by decide) (by decide)]⟩
  intro q hq
  simp only [lm_cst, List.mem_cons, List.mem_nil_iff, or_false] at hq
  exact ⟨e q (by omega) (by omega) (by omega) (by omega) (by omega) (by omega) (by omega) (by omega), rfl⟩
theorem lm_st11f (h : lm_Fre m) : lm_Stp sc 25 26 [.int v] m n x := by
  intro r hr
  have hx := lm_rm_room hr
  rcases lm_range v (n := 2) (by omega) with ⟨s, hs, e⟩ | e
  · subst e
    have hp := lm_kps_pos hs
    have er : ∀ q, q ≠ 44 → q ≠ 76 → q ≠ 194 → q ≠ 195 → q ≠ 203 → q ≠ 231 → q ≠ 268 → q ≠ 333 → lm_u (lm_km2 (lm_u (lm_ck m s) 203 4 0) s) 203 4 2 q = m q := fun q h1 h2 h3 h4 h5 h6 h7 h8 => by rw [lm_u_row h5, lm_km2_row h5 h6, lm_u_row h5, lm_ck_row h1]
    refine ⟨2, 0, _, _, _, _, _, lm_v25_16 hx (lm_u79b (d := 596) hs (h.2.2 5 (by omega)).1 (by omega) (by omega) hx), lm_u26b (d := 598) (l := 0) hs (by rw [lm_ck_row (by decide)]; exact (h.2.2 5 (by omega)).2) (by omega) (by omega), lm_u_eq, fun h => absurd h (by decide), h.tie.rows er ?_, lm_kpr er, lm_rm_xx hr⟩
    rw [lm_u_ne (by decide)]
    unfold lm_km2
    rw [lm_fl_row (by decide), lm_u_ne (by decide), lm_u_ne (by decide), lm_u_ne (by decide), lm_u_ne (by decide), lm_u_ne (by decide), lm_ck_row (by decide)]
  · exact ⟨1, 0, _, _, _, _, _, lm_v25_13 hx (lm_u79a (d := 596) e hx), lm_u26a (d := 598) e, lm_u_eq, fun h => absurd h (by decide), h.tie.cod, lm_kpc, lm_rm_xx hr⟩
end LMKR
