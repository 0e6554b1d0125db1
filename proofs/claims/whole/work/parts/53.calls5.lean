/-! ===== word, same of both ===== -/
def lm_s8 (x : Int64) : Int64 := x <<< ((Int32.toInt64 (Int32.ofInt 8)) &&& 63)
/-- k bytes from t on put behind x -/
def lm_wv (g : Nat → Int64) : Nat → Nat → Int64 → Int64
  | 0, _, x => x
  | k + 1, t, x => lm_wv g k (t + 1) (lm_s8 x ||| g t)
theorem lm_wv_congr {g g' : Nat → Int64} (h : ∀ t, g t = g' t) : ∀ k t x, lm_wv g k t x = lm_wv g' k t x := by
  have e : g = g' := funext h
  subst e
  intros
  rfl
theorem lm_and255 (v : Int32) : Int32.toInt64 (v &&& Int32.ofInt 255) = Int32.toInt64 v &&& Int64.ofNat 255 := by
  rw [Int32.toInt64_and]
  rfl
/-- are k bytes from t on the same? -/
def lm_ev (f g : Nat → Int32) : Nat → Nat → Bool
  | 0, _ => true
  | k + 1, t => cond (decide (f t = g t)) (lm_ev f g k (t + 1)) false
theorem lm_ev_congr {f g f' g' : Nat → Int32} : ∀ k t, (∀ s, t ≤ s → s < t + k → f s = f' s ∧ g s = g' s) → lm_ev f g k t = lm_ev f' g' k t := by
  intro k
  induction k with
  | zero => intros; rfl
  | succ k ih =>
    intro t h
    unfold lm_ev
    rw [(h t (by omega) (by omega)).1, (h t (by omega) (by omega)).2, ih (t + 1) (fun s h1 h2 => h s (by omega) (by omega))]
section LMC5
variable {sc : lm_H} {d i j c l a k : Nat} {m : lm_MI} {n : lm_ML} {x : lm_H × Nat × Nat} {v w : Int32}
theorem lm_l57 {o q : Nat} (h1 : lm_fdp 404 o = some 0) (h2 : lm_fdp 402 o = some (q + 5)) (h3 : lm_ar q = some (1, 65536)) (h : m o 1 = Int32.ofNat l) (hl : l ≤ 65536) (ha : a ≤ 65536) : ∀ k t (y : Int64), t + k = a + 8 → lm_rn sc d lm_m57.2.2.2.2.1 (lm_reg lm_m57.2.2.2.2.2) (25, [(2, .int (Int32.ofNat a)), (3, .ref o), (4, .long y), (6, .int (Int32.ofNat t))], []) (lm_w m n x) = some (.ok (some (.long (lm_wv (fun t => if t < l then Int32.toInt64 (lm_b8 (m q t)) &&& Int64.ofNat 255 else 0) k t y))), lm_w m n x) := by
  intro k
  induction k with
  | zero =>
    intro t y ht
    have ht : t = a + 8 := ht
    subst ht
    refine lm_e57_25 ?_
    unfold lm_q57_25
    simp only [lm_K8, lm_oo]
    exact lm_geT (by omega) (by omega) (by omega) rfl
  | succ k ih =>
    intro t y ht
    refine lm_e57_25 ?_
    unfold lm_q57_25
    rw [show Int32.ofNat a + Int32.ofInt 8 = Int32.ofNat (a + 8) from lm_oa a 8]
    refine lm_geF (by omega) (by omega) (by omega) ?_
    refine lm_sI h1 ?_
    simp only [Nat.reduceDiv, Nat.reduceMod, h]
    by_cases hk : l ≤ t
    · refine lm_geT (by omega) (by omega) hk ?_
      refine lm_e57_63 ?_
      unfold lm_q57_63
      rw [show Int32.ofNat t + Int32.ofInt 1 = Int32.ofNat (t + 1) from lm_oa t 1]
      refine (ih (t + 1) _ (by omega)).trans ?_
      show _ = some (Except.ok (some (Value.long (lm_wv _ k (t + 1) (lm_s8 y ||| _)))), _)
      dsimp only
      rw [if_neg (by omega)]
      rfl
    · refine lm_geF (by omega) (by omega) hk ?_
      refine lm_sR h2 ?_
      refine lm_sB h3 (by omega) ?_
      refine lm_e57_63 ?_
      unfold lm_q57_63
      rw [show Int32.ofNat t + Int32.ofInt 1 = Int32.ofNat (t + 1) from lm_oa t 1]
      refine (ih (t + 1) _ (by omega)).trans ?_
      show _ = some (Except.ok (some (Value.long (lm_wv _ k (t + 1) (lm_s8 y ||| _)))), _)
      dsimp only
      rw [if_pos (by omega), ← lm_and255]
      rfl
theorem lm_u57 (hi : i < 8) (h : m (26 + 2 * i) 1 = Int32.ofNat l) (hk : k < l) (hl : l ≤ 65536) : lm_cal sc (d + 2) 57 [.ref 0, .int (Int32.ofNat i), .int (Int32.ofNat k)] (lm_w m n x) = some (.ok (some (.long (lm_wv (fun t => if t < l then Int32.toInt64 (lm_b8 (m (27 + 2 * i) t)) &&& Int64.ofNat 255 else 0) 8 k 0))), lm_w m n x) := by
  refine lm_cal_of (Y := lm_m57) rfl rfl (lm_e57_0 ?_)
  unfold lm_q57_0
  refine lm_cV (lm_t132n (i := i) (d := d) (n := 7) (by omega) (by omega)) ?_
  repeat (first
    | ((with_reducible apply lm_sI); exact rfl)
    | ((with_reducible apply lm_sR); exact rfl)
    | ((with_reducible apply lm_sS); exact rfl; exact rfl)
    | ((with_reducible apply lm_sL); exact rfl)
    | ((with_reducible apply lm_sP); exact rfl; exact rfl)
    | ((with_reducible apply lm_sPL); exact rfl; exact rfl)
    | ((with_reducible apply lm_sAA); exact rfl; first | exact rfl | exact lm_roO (by omega) | exact lm_roM (by omega))
    | ((with_reducible apply lm_sI); exact lm_fpL (by omega))
    | ((with_reducible apply lm_sR); exact lm_fpB (by omega))
    | ((with_reducible apply lm_sP); exact lm_fpL (by omega); exact rfl)
    | ((with_reducible apply lm_sS); exact lm_ocO (by omega); exact rfl)
    | ((with_reducible apply lm_sA); exact rfl; omega)
    | ((with_reducible apply lm_sJ); exact rfl; omega)
    | ((with_reducible apply lm_sB); (first | exact rfl | exact lm_arB (by omega) | exact lm_arM (by omega)); omega)
    | ((with_reducible apply lm_wA); exact rfl; omega)
    | ((with_reducible apply lm_wJ); exact rfl; omega)
    | ((with_reducible apply lm_wB); (first | exact rfl | exact lm_arB (by omega) | exact lm_arM (by omega)); omega)
    | ((with_reducible apply lm_sAl); (first | exact rfl | exact lm_arB (by omega) | exact lm_arM (by omega)); omega)
    | ((with_reducible apply lm_iW); decide))
  refine lm_cV (lm_u135 (lm_fpL hi) h hk hl) ?_
  exact lm_l57 (lm_fpL hi) (lm_fpB hi) (lm_arB hi) h hl (by omega) 8 k 0 rfl
theorem lm_u57a (h : ¬ ((0 : Int32) ≤ v ∧ v ≤ Int32.ofNat 7)) (hr : lm_rom x) : lm_cal sc (d + 2) 57 [.ref 0, .int v, .int w] (lm_w m n x) = some (.error (lm_xp x), lm_w m n (lm_xx 13 x)) := by
  refine lm_cal_of (Y := lm_m57) rfl rfl (lm_e57_0 ?_)
  unfold lm_q57_0
  exact lm_cVe (lm_u132e (d := d) (k := 7) h hr)
theorem lm_u57c (hi : i < 8) (h : m (26 + 2 * i) 1 = Int32.ofNat l) (hv : v < 0 ∨ ¬ v < Int32.ofNat l) (hr : lm_rom x) : lm_cal sc (d + 2) 57 [.ref 0, .int (Int32.ofNat i), .int v] (lm_w m n x) = some (.error (lm_xp x), lm_w m n (lm_xx 12 x)) := by
  refine lm_cal_of (Y := lm_m57) rfl rfl (lm_e57_0 ?_)
  unfold lm_q57_0
  refine lm_cV (lm_t132n (i := i) (d := d) (n := 7) (by omega) (by omega)) ?_
  repeat (first
    | ((with_reducible apply lm_sI); exact rfl)
    | ((with_reducible apply lm_sR); exact rfl)
    | ((with_reducible apply lm_sS); exact rfl; exact rfl)
    | ((with_reducible apply lm_sL); exact rfl)
    | ((with_reducible apply lm_sP); exact rfl; exact rfl)
    | ((with_reducible apply lm_sPL); exact rfl; exact rfl)
    | ((with_reducible apply lm_sAA); exact rfl; first | exact rfl | exact lm_roO (by omega) | exact lm_roM (by omega))
    | ((with_reducible apply lm_sI); exact lm_fpL (by omega))
    | ((with_reducible apply lm_sR); exact lm_fpB (by omega))
    | ((with_reducible apply lm_sP); exact lm_fpL (by omega); exact rfl)
    | ((with_reducible apply lm_sS); exact lm_ocO (by omega); exact rfl)
    | ((with_reducible apply lm_sA); exact rfl; omega)
    | ((with_reducible apply lm_sJ); exact rfl; omega)
    | ((with_reducible apply lm_sB); (first | exact rfl | exact lm_arB (by omega) | exact lm_arM (by omega)); omega)
    | ((with_reducible apply lm_wA); exact rfl; omega)
    | ((with_reducible apply lm_wJ); exact rfl; omega)
    | ((with_reducible apply lm_wB); (first | exact rfl | exact lm_arB (by omega) | exact lm_arM (by omega)); omega)
    | ((with_reducible apply lm_sAl); (first | exact rfl | exact lm_arB (by omega) | exact lm_arM (by omega)); omega)
    | ((with_reducible apply lm_iW); decide))
  exact lm_cVe (lm_u135e (lm_fpL hi) h hv hr)
theorem lm_l16 (hi : i < 8) (h : m 214 i = Int32.ofNat l) (hl : l ≤ 65536) (ha : a ≤ 65536) : ∀ k t (y : Int64), t + k = a + 8 → lm_rn sc d lm_m16.2.2.2.2.1 (lm_reg lm_m16.2.2.2.2.2) (43, [(0, .ref 203), (1, .int (Int32.ofNat i)), (2, .int (Int32.ofNat a)), (3, .long y), (5, .int (Int32.ofNat t))], []) (lm_w m n x) = some (.ok (some (.long (lm_wv (fun t => if t < l then Int32.toInt64 (lm_b8 (m (206 + i) t)) &&& Int64.ofNat 255 else 0) k t y))), lm_w m n x) := by
  intro k
  induction k with
  | zero =>
    intro t y ht
    have ht : t = a + 8 := ht
    subst ht
    refine lm_e16_43 ?_
    unfold lm_q16_43
    simp only [lm_K8, lm_oo]
    exact lm_geT (by omega) (by omega) (by omega) rfl
  | succ k ih =>
    intro t y ht
    refine lm_e16_43 ?_
    unfold lm_q16_43
    rw [show Int32.ofNat a + Int32.ofInt 8 = Int32.ofNat (a + 8) from lm_oa a 8]
    refine lm_geF (by omega) (by omega) (by omega) ?_
    repeat (first
    | ((with_reducible apply lm_sI); exact rfl)
    | ((with_reducible apply lm_sR); exact rfl)
    | ((with_reducible apply lm_sS); exact rfl; exact rfl)
    | ((with_reducible apply lm_sL); exact rfl)
    | ((with_reducible apply lm_sP); exact rfl; exact rfl)
    | ((with_reducible apply lm_sPL); exact rfl; exact rfl)
    | ((with_reducible apply lm_sAA); exact rfl; first | exact rfl | exact lm_roO (by omega) | exact lm_roM (by omega))
    | ((with_reducible apply lm_sI); exact lm_fpL (by omega))
    | ((with_reducible apply lm_sR); exact lm_fpB (by omega))
    | ((with_reducible apply lm_sP); exact lm_fpL (by omega); exact rfl)
    | ((with_reducible apply lm_sS); exact lm_ocO (by omega); exact rfl)
    | ((with_reducible apply lm_sA); exact rfl; omega)
    | ((with_reducible apply lm_sJ); exact rfl; omega)
    | ((with_reducible apply lm_sB); (first | exact rfl | exact lm_arB (by omega) | exact lm_arM (by omega)); omega)
    | ((with_reducible apply lm_wA); exact rfl; omega)
    | ((with_reducible apply lm_wJ); exact rfl; omega)
    | ((with_reducible apply lm_wB); (first | exact rfl | exact lm_arB (by omega) | exact lm_arM (by omega)); omega)
    | ((with_reducible apply lm_sAl); (first | exact rfl | exact lm_arB (by omega) | exact lm_arM (by omega)); omega)
    | ((with_reducible apply lm_iW); decide))
    rw [h]
    by_cases hk : l ≤ t
    · refine lm_geT (by omega) (by omega) hk ?_
      refine lm_e16_85 ?_
      unfold lm_q16_85
      rw [show Int32.ofNat t + Int32.ofInt 1 = Int32.ofNat (t + 1) from lm_oa t 1]
      refine (ih (t + 1) _ (by omega)).trans ?_
      show _ = some (Except.ok (some (Value.long (lm_wv _ k (t + 1) (lm_s8 y ||| _)))), _)
      dsimp only
      rw [if_neg (by omega)]
      rfl
    · refine lm_geF (by omega) (by omega) hk ?_
      repeat (first
    | ((with_reducible apply lm_sI); exact rfl)
    | ((with_reducible apply lm_sR); exact rfl)
    | ((with_reducible apply lm_sS); exact rfl; exact rfl)
    | ((with_reducible apply lm_sL); exact rfl)
    | ((with_reducible apply lm_sP); exact rfl; exact rfl)
    | ((with_reducible apply lm_sPL); exact rfl; exact rfl)
    | ((with_reducible apply lm_sAA); exact rfl; first | exact rfl | exact lm_roO (by omega) | exact lm_roM (by omega))
    | ((with_reducible apply lm_sI); exact lm_fpL (by omega))
    | ((with_reducible apply lm_sR); exact lm_fpB (by omega))
    | ((with_reducible apply lm_sP); exact lm_fpL (by omega); exact rfl)
    | ((with_reducible apply lm_sS); exact lm_ocO (by omega); exact rfl)
    | ((with_reducible apply lm_sA); exact rfl; omega)
    | ((with_reducible apply lm_sJ); exact rfl; omega)
    | ((with_reducible apply lm_sB); (first | exact rfl | exact lm_arB (by omega) | exact lm_arM (by omega)); omega)
    | ((with_reducible apply lm_wA); exact rfl; omega)
    | ((with_reducible apply lm_wJ); exact rfl; omega)
    | ((with_reducible apply lm_wB); (first | exact rfl | exact lm_arB (by omega) | exact lm_arM (by omega)); omega)
    | ((with_reducible apply lm_sAl); (first | exact rfl | exact lm_arB (by omega) | exact lm_arM (by omega)); omega)
    | ((with_reducible apply lm_iW); decide))
      refine lm_e16_85 ?_
      unfold lm_q16_85
      rw [show Int32.ofNat t + Int32.ofInt 1 = Int32.ofNat (t + 1) from lm_oa t 1]
      refine (ih (t + 1) _ (by omega)).trans ?_
      show _ = some (Except.ok (some (Value.long (lm_wv _ k (t + 1) (lm_s8 y ||| _)))), _)
      dsimp only
      rw [if_pos (by omega)]
      rfl
theorem lm_u16 (hi : i < 8) (h : m 214 i = Int32.ofNat l) (hk : k < l) (hl : l ≤ 65536) : lm_cal sc (d + 2) 16 [.ref 203, .int (Int32.ofNat i), .int (Int32.ofNat k)] (lm_w m n x) = some (.ok (some (.long (lm_wv (fun t => if t < l then Int32.toInt64 (lm_b8 (m (206 + i) t)) &&& Int64.ofNat 255 else 0) 8 k 0))), lm_w (lm_u m 203 4 0) n x) := by
  refine lm_cal_of (Y := lm_m16) rfl rfl (lm_e16_0 ?_)
  unfold lm_q16_0
  refine lm_cI (lm_t52n (i := i) (d := d) (n := 7) (by omega) (by omega)) ?_
  repeat (first
    | ((with_reducible apply lm_sI); exact rfl)
    | ((with_reducible apply lm_sR); exact rfl)
    | ((with_reducible apply lm_sS); exact rfl; exact rfl)
    | ((with_reducible apply lm_sL); exact rfl)
    | ((with_reducible apply lm_sP); exact rfl; exact rfl)
    | ((with_reducible apply lm_sPL); exact rfl; exact rfl)
    | ((with_reducible apply lm_sAA); exact rfl; first | exact rfl | exact lm_roO (by omega) | exact lm_roM (by omega))
    | ((with_reducible apply lm_sI); exact lm_fpL (by omega))
    | ((with_reducible apply lm_sR); exact lm_fpB (by omega))
    | ((with_reducible apply lm_sP); exact lm_fpL (by omega); exact rfl)
    | ((with_reducible apply lm_sS); exact lm_ocO (by omega); exact rfl)
    | ((with_reducible apply lm_sA); exact rfl; omega)
    | ((with_reducible apply lm_sJ); exact rfl; omega)
    | ((with_reducible apply lm_sB); (first | exact rfl | exact lm_arB (by omega) | exact lm_arM (by omega)); omega)
    | ((with_reducible apply lm_wA); exact rfl; omega)
    | ((with_reducible apply lm_wJ); exact rfl; omega)
    | ((with_reducible apply lm_wB); (first | exact rfl | exact lm_arB (by omega) | exact lm_arM (by omega)); omega)
    | ((with_reducible apply lm_sAl); (first | exact rfl | exact lm_arB (by omega) | exact lm_arM (by omega)); omega)
    | ((with_reducible apply lm_iW); decide))
  refine lm_cI (lm_u49 (d := d) true) ?_
  refine lm_iF (show ¬ (1 : Int32) = 0 by decide) ?_
  repeat (first
    | ((with_reducible apply lm_sI); exact rfl)
    | ((with_reducible apply lm_sR); exact rfl)
    | ((with_reducible apply lm_sS); exact rfl; exact rfl)
    | ((with_reducible apply lm_sL); exact rfl)
    | ((with_reducible apply lm_sP); exact rfl; exact rfl)
    | ((with_reducible apply lm_sPL); exact rfl; exact rfl)
    | ((with_reducible apply lm_sAA); exact rfl; first | exact rfl | exact lm_roO (by omega) | exact lm_roM (by omega))
    | ((with_reducible apply lm_sI); exact lm_fpL (by omega))
    | ((with_reducible apply lm_sR); exact lm_fpB (by omega))
    | ((with_reducible apply lm_sP); exact lm_fpL (by omega); exact rfl)
    | ((with_reducible apply lm_sS); exact lm_ocO (by omega); exact rfl)
    | ((with_reducible apply lm_sA); exact rfl; omega)
    | ((with_reducible apply lm_sJ); exact rfl; omega)
    | ((with_reducible apply lm_sB); (first | exact rfl | exact lm_arB (by omega) | exact lm_arM (by omega)); omega)
    | ((with_reducible apply lm_wA); exact rfl; omega)
    | ((with_reducible apply lm_wJ); exact rfl; omega)
    | ((with_reducible apply lm_wB); (first | exact rfl | exact lm_arB (by omega) | exact lm_arM (by omega)); omega)
    | ((with_reducible apply lm_sAl); (first | exact rfl | exact lm_arB (by omega) | exact lm_arM (by omega)); omega)
    | ((with_reducible apply lm_iW); decide))
  rw [show lm_u m 203 4 (cond true 0 (Int32.ofInt 1)) 214 i = Int32.ofNat l by rw [lm_u_row (by decide), h]]
  refine lm_cI (lm_t52p hk hl) ?_
  repeat (first
    | ((with_reducible apply lm_sI); exact rfl)
    | ((with_reducible apply lm_sR); exact rfl)
    | ((with_reducible apply lm_sS); exact rfl; exact rfl)
    | ((with_reducible apply lm_sL); exact rfl)
    | ((with_reducible apply lm_sP); exact rfl; exact rfl)
    | ((with_reducible apply lm_sPL); exact rfl; exact rfl)
    | ((with_reducible apply lm_sAA); exact rfl; first | exact rfl | exact lm_roO (by omega) | exact lm_roM (by omega))
    | ((with_reducible apply lm_sI); exact lm_fpL (by omega))
    | ((with_reducible apply lm_sR); exact lm_fpB (by omega))
    | ((with_reducible apply lm_sP); exact lm_fpL (by omega); exact rfl)
    | ((with_reducible apply lm_sS); exact lm_ocO (by omega); exact rfl)
    | ((with_reducible apply lm_sA); exact rfl; omega)
    | ((with_reducible apply lm_sJ); exact rfl; omega)
    | ((with_reducible apply lm_sB); (first | exact rfl | exact lm_arB (by omega) | exact lm_arM (by omega)); omega)
    | ((with_reducible apply lm_wA); exact rfl; omega)
    | ((with_reducible apply lm_wJ); exact rfl; omega)
    | ((with_reducible apply lm_wB); (first | exact rfl | exact lm_arB (by omega) | exact lm_arM (by omega)); omega)
    | ((with_reducible apply lm_sAl); (first | exact rfl | exact lm_arB (by omega) | exact lm_arM (by omega)); omega)
    | ((with_reducible apply lm_iW); decide))
  refine lm_cI (lm_u49 (d := d) true) ?_
  refine lm_iT (show ¬ (1 : Int32) = 0 by decide) ?_
  rw [lm_uu]
  have g := lm_l16 (sc := sc) (d := d + 1) (m := lm_u m 203 4 0) (n := n) (x := x) (a := k) hi (by rw [lm_u_row (by decide), h]) hl (by omega) 8 k 0 rfl
  rw [show lm_u m 203 4 0 (206 + i) = m (206 + i) from lm_u_row (by omega)] at g
  exact g
theorem lm_u16a (h : ¬ ((0 : Int32) ≤ v ∧ v ≤ Int32.ofNat 7)) : lm_cal sc (d + 2) 16 [.ref 203, .int v, .int w] (lm_w m n x) = some (.ok (some (.long 0)), lm_w (lm_u m 203 4 1) n x) := by
  refine lm_cal_of (Y := lm_m16) rfl rfl (lm_e16_0 ?_)
  unfold lm_q16_0
  refine lm_cI (lm_t52f (d := d) h) ?_
  repeat (first
    | ((with_reducible apply lm_sI); exact rfl)
    | ((with_reducible apply lm_sR); exact rfl)
    | ((with_reducible apply lm_sS); exact rfl; exact rfl)
    | ((with_reducible apply lm_sL); exact rfl)
    | ((with_reducible apply lm_sP); exact rfl; exact rfl)
    | ((with_reducible apply lm_sPL); exact rfl; exact rfl)
    | ((with_reducible apply lm_sAA); exact rfl; first | exact rfl | exact lm_roO (by omega) | exact lm_roM (by omega))
    | ((with_reducible apply lm_sI); exact lm_fpL (by omega))
    | ((with_reducible apply lm_sR); exact lm_fpB (by omega))
    | ((with_reducible apply lm_sP); exact lm_fpL (by omega); exact rfl)
    | ((with_reducible apply lm_sS); exact lm_ocO (by omega); exact rfl)
    | ((with_reducible apply lm_sA); exact rfl; omega)
    | ((with_reducible apply lm_sJ); exact rfl; omega)
    | ((with_reducible apply lm_sB); (first | exact rfl | exact lm_arB (by omega) | exact lm_arM (by omega)); omega)
    | ((with_reducible apply lm_wA); exact rfl; omega)
    | ((with_reducible apply lm_wJ); exact rfl; omega)
    | ((with_reducible apply lm_wB); (first | exact rfl | exact lm_arB (by omega) | exact lm_arM (by omega)); omega)
    | ((with_reducible apply lm_sAl); (first | exact rfl | exact lm_arB (by omega) | exact lm_arM (by omega)); omega)
    | ((with_reducible apply lm_iW); decide))
  refine lm_cI (lm_u49 (d := d) false) ?_
  refine lm_iT (show (0 : Int32) = 0 by decide) ?_
  exact rfl
theorem lm_u16c (hi : i < 8) (h : m 214 i = Int32.ofNat l) (hv : ¬ ((0 : Int32) ≤ v ∧ v ≤ Int32.ofNat l - Int32.ofInt 1)) : lm_cal sc (d + 2) 16 [.ref 203, .int (Int32.ofNat i), .int v] (lm_w m n x) = some (.ok (some (.long 0)), lm_w (lm_u m 203 4 2) n x) := by
  refine lm_cal_of (Y := lm_m16) rfl rfl (lm_e16_0 ?_)
  unfold lm_q16_0
  refine lm_cI (lm_t52n (i := i) (d := d) (n := 7) (by omega) (by omega)) ?_
  repeat (first
    | ((with_reducible apply lm_sI); exact rfl)
    | ((with_reducible apply lm_sR); exact rfl)
    | ((with_reducible apply lm_sS); exact rfl; exact rfl)
    | ((with_reducible apply lm_sL); exact rfl)
    | ((with_reducible apply lm_sP); exact rfl; exact rfl)
    | ((with_reducible apply lm_sPL); exact rfl; exact rfl)
    | ((with_reducible apply lm_sAA); exact rfl; first | exact rfl | exact lm_roO (by omega) | exact lm_roM (by omega))
    | ((with_reducible apply lm_sI); exact lm_fpL (by omega))
    | ((with_reducible apply lm_sR); exact lm_fpB (by omega))
    | ((with_reducible apply lm_sP); exact lm_fpL (by omega); exact rfl)
    | ((with_reducible apply lm_sS); exact lm_ocO (by omega); exact rfl)
    | ((with_reducible apply lm_sA); exact rfl; omega)
    | ((with_reducible apply lm_sJ); exact rfl; omega)
    | ((with_reducible apply lm_sB); (first | exact rfl | exact lm_arB (by omega) | exact lm_arM (by omega)); omega)
    | ((with_reducible apply lm_wA); exact rfl; omega)
    | ((with_reducible apply lm_wJ); exact rfl; omega)
    | ((with_reducible apply lm_wB); (first | exact rfl | exact lm_arB (by omega) | exact lm_arM (by omega)); omega)
    | ((with_reducible apply lm_sAl); (first | exact rfl | exact lm_arB (by omega) | exact lm_arM (by omega)); omega)
    | ((with_reducible apply lm_iW); decide))
  refine lm_cI (lm_u49 (d := d) true) ?_
  refine lm_iF (show ¬ (1 : Int32) = 0 by decide) ?_
  repeat (first
    | ((with_reducible apply lm_sI); exact rfl)
    | ((with_reducible apply lm_sR); exact rfl)
    | ((with_reducible apply lm_sS); exact rfl; exact rfl)
    | ((with_reducible apply lm_sL); exact rfl)
    | ((with_reducible apply lm_sP); exact rfl; exact rfl)
    | ((with_reducible apply lm_sPL); exact rfl; exact rfl)
    | ((with_reducible apply lm_sAA); exact rfl; first | exact rfl | exact lm_roO (by omega) | exact lm_roM (by omega))
    | ((with_reducible apply lm_sI); exact lm_fpL (by omega))
    | ((with_reducible apply lm_sR); exact lm_fpB (by omega))
    | ((with_reducible apply lm_sP); exact lm_fpL (by omega); exact rfl)
    | ((with_reducible apply lm_sS); exact lm_ocO (by omega); exact rfl)
    | ((with_reducible apply lm_sA); exact rfl; omega)
    | ((with_reducible apply lm_sJ); exact rfl; omega)
    | ((with_reducible apply lm_sB); (first | exact rfl | exact lm_arB (by omega) | exact lm_arM (by omega)); omega)
    | ((with_reducible apply lm_wA); exact rfl; omega)
    | ((with_reducible apply lm_wJ); exact rfl; omega)
    | ((with_reducible apply lm_wB); (first | exact rfl | exact lm_arB (by omega) | exact lm_arM (by omega)); omega)
    | ((with_reducible apply lm_sAl); (first | exact rfl | exact lm_arB (by omega) | exact lm_arM (by omega)); omega)
    | ((with_reducible apply lm_iW); decide))
  rw [show lm_u m 203 4 (cond true 0 (Int32.ofInt 1)) 214 i = Int32.ofNat l by rw [lm_u_row (by decide), h]]
  refine lm_cI (lm_t52q hv) ?_
  repeat (first
    | ((with_reducible apply lm_sI); exact rfl)
    | ((with_reducible apply lm_sR); exact rfl)
    | ((with_reducible apply lm_sS); exact rfl; exact rfl)
    | ((with_reducible apply lm_sL); exact rfl)
    | ((with_reducible apply lm_sP); exact rfl; exact rfl)
    | ((with_reducible apply lm_sPL); exact rfl; exact rfl)
    | ((with_reducible apply lm_sAA); exact rfl; first | exact rfl | exact lm_roO (by omega) | exact lm_roM (by omega))
    | ((with_reducible apply lm_sI); exact lm_fpL (by omega))
    | ((with_reducible apply lm_sR); exact lm_fpB (by omega))
    | ((with_reducible apply lm_sP); exact lm_fpL (by omega); exact rfl)
    | ((with_reducible apply lm_sS); exact lm_ocO (by omega); exact rfl)
    | ((with_reducible apply lm_sA); exact rfl; omega)
    | ((with_reducible apply lm_sJ); exact rfl; omega)
    | ((with_reducible apply lm_sB); (first | exact rfl | exact lm_arB (by omega) | exact lm_arM (by omega)); omega)
    | ((with_reducible apply lm_wA); exact rfl; omega)
    | ((with_reducible apply lm_wJ); exact rfl; omega)
    | ((with_reducible apply lm_wB); (first | exact rfl | exact lm_arB (by omega) | exact lm_arM (by omega)); omega)
    | ((with_reducible apply lm_sAl); (first | exact rfl | exact lm_arB (by omega) | exact lm_arM (by omega)); omega)
    | ((with_reducible apply lm_iW); decide))
  refine lm_cI (lm_u49 (d := d) false) ?_
  refine lm_iF (show ¬ ¬ (0 : Int32) = 0 by decide) ?_
  rw [lm_uu]
  exact rfl
/-! same -/
theorem lm_l136 {p q s r b : Nat} (hp : lm_ar p = some (1, s)) (hq : lm_ar q = some (1, r)) (ha : a + l ≤ s) (hb : b + l ≤ r) : ∀ k t, t + k = l → lm_rn sc d lm_m136.2.2.2.2.1 (lm_reg lm_m136.2.2.2.2.2) (3, [(0, .ref p), (1, .int (Int32.ofNat a)), (2, .ref q), (3, .int (Int32.ofNat b)), (4, .int (Int32.ofNat l)), (5, .int (Int32.ofNat t))], []) (lm_w m n x) = some (.ok (some (.int (lm_z (lm_ev (fun t => lm_b8 (m p (a + t))) (fun t => lm_b8 (m q (b + t))) k t)))), lm_w m n x) := by
  have h1 := lm_ar_le hp
  have h2 := lm_ar_le hq
  intro k
  induction k with
  | zero =>
    intro t ht
    have ht : t = l := ht
    subst ht
    refine lm_e136_3 ?_
    unfold lm_q136_3
    refine lm_geT (by omega) (by omega) (by omega) ?_
    exact lm_iW (by decide) rfl
  | succ k ih =>
    intro t ht
    refine lm_e136_3 ?_
    unfold lm_q136_3
    refine lm_geF (by omega) (by omega) (by omega) ?_
    simp only [lm_K1, lm_oo]
    refine lm_sB hp (by omega) ?_
    refine lm_sB hq (by omega) ?_
    unfold lm_ev
    by_cases e : lm_b8 (m p (a + t)) = lm_b8 (m q (b + t))
    · refine lm_iT e ?_
      rw [decide_eq_true e, cond_true]
      exact ih (t + 1) (by omega)
    · refine lm_iF e ?_
      rw [decide_eq_false e, cond_false]
      exact lm_iW (by decide) rfl
theorem lm_u136 {p q s r b : Nat} (hp : lm_ar p = some (1, s)) (hq : lm_ar q = some (1, r)) (ha : a + l ≤ s) (hb : b + l ≤ r) : lm_cal sc (d + 1) 136 [.ref p, .int (Int32.ofNat a), .ref q, .int (Int32.ofNat b), .int (Int32.ofNat l)] (lm_w m n x) = some (.ok (some (.int (lm_z (lm_ev (fun t => lm_b8 (m p (a + t))) (fun t => lm_b8 (m q (b + t))) l 0)))), lm_w m n x) := by
  refine lm_cal_of (Y := lm_m136) rfl rfl (lm_e136_0 ?_)
  unfold lm_q136_0
  rw [lm_K0]
  exact lm_l136 hp hq ha hb l 0 (by omega)
theorem lm_u58 {l' : Nat} (hi : i < 8) (hj : j < 8) (h : m (26 + 2 * i) 1 = Int32.ofNat l) (h' : m (26 + 2 * j) 1 = Int32.ofNat l') (hl : l ≤ 65536) (hl' : l' ≤ 65536) : lm_cal sc (d + 2) 58 [.ref 0, .int (Int32.ofNat i), .int (Int32.ofNat j)] (lm_w m n x) = some (.ok (some (.int (lm_z (decide (l = l') && lm_ev (fun t => lm_b8 (m (27 + 2 * i) t)) (fun t => lm_b8 (m (27 + 2 * j) t)) l 0)))), lm_w m n x) := by
  refine lm_cal_of (Y := lm_m58) rfl rfl (lm_e58_0 ?_)
  unfold lm_q58_0
  refine lm_cV (lm_t132n (i := i) (d := d) (n := 7) (by omega) (by omega)) ?_
  refine lm_cV (lm_t132n (i := j) (d := d) (n := 7) (by omega) (by omega)) ?_
  repeat (first
    | ((with_reducible apply lm_sI); exact rfl)
    | ((with_reducible apply lm_sR); exact rfl)
    | ((with_reducible apply lm_sS); exact rfl; exact rfl)
    | ((with_reducible apply lm_sL); exact rfl)
    | ((with_reducible apply lm_sP); exact rfl; exact rfl)
    | ((with_reducible apply lm_sPL); exact rfl; exact rfl)
    | ((with_reducible apply lm_sAA); exact rfl; first | exact rfl | exact lm_roO (by omega) | exact lm_roM (by omega))
    | ((with_reducible apply lm_sI); exact lm_fpL (by omega))
    | ((with_reducible apply lm_sR); exact lm_fpB (by omega))
    | ((with_reducible apply lm_sP); exact lm_fpL (by omega); exact rfl)
    | ((with_reducible apply lm_sS); exact lm_ocO (by omega); exact rfl)
    | ((with_reducible apply lm_sA); exact rfl; omega)
    | ((with_reducible apply lm_sJ); exact rfl; omega)
    | ((with_reducible apply lm_sB); (first | exact rfl | exact lm_arB (by omega) | exact lm_arM (by omega)); omega)
    | ((with_reducible apply lm_wA); exact rfl; omega)
    | ((with_reducible apply lm_wJ); exact rfl; omega)
    | ((with_reducible apply lm_wB); (first | exact rfl | exact lm_arB (by omega) | exact lm_arM (by omega)); omega)
    | ((with_reducible apply lm_sAl); (first | exact rfl | exact lm_arB (by omega) | exact lm_arM (by omega)); omega)
    | ((with_reducible apply lm_iW); decide))
  simp only [Nat.reduceDiv, Nat.reduceMod, h, h']
  by_cases e : l = l'
  · subst e
    refine lm_neF (by omega) (by omega) (by omega) ?_
    repeat (first
    | ((with_reducible apply lm_sI); exact rfl)
    | ((with_reducible apply lm_sR); exact rfl)
    | ((with_reducible apply lm_sS); exact rfl; exact rfl)
    | ((with_reducible apply lm_sL); exact rfl)
    | ((with_reducible apply lm_sP); exact rfl; exact rfl)
    | ((with_reducible apply lm_sPL); exact rfl; exact rfl)
    | ((with_reducible apply lm_sAA); exact rfl; first | exact rfl | exact lm_roO (by omega) | exact lm_roM (by omega))
    | ((with_reducible apply lm_sI); exact lm_fpL (by omega))
    | ((with_reducible apply lm_sR); exact lm_fpB (by omega))
    | ((with_reducible apply lm_sP); exact lm_fpL (by omega); exact rfl)
    | ((with_reducible apply lm_sS); exact lm_ocO (by omega); exact rfl)
    | ((with_reducible apply lm_sA); exact rfl; omega)
    | ((with_reducible apply lm_sJ); exact rfl; omega)
    | ((with_reducible apply lm_sB); (first | exact rfl | exact lm_arB (by omega) | exact lm_arM (by omega)); omega)
    | ((with_reducible apply lm_wA); exact rfl; omega)
    | ((with_reducible apply lm_wJ); exact rfl; omega)
    | ((with_reducible apply lm_wB); (first | exact rfl | exact lm_arB (by omega) | exact lm_arM (by omega)); omega)
    | ((with_reducible apply lm_sAl); (first | exact rfl | exact lm_arB (by omega) | exact lm_arM (by omega)); omega)
    | ((with_reducible apply lm_iW); decide))
    simp only [Nat.reduceDiv, Nat.reduceMod, h, lm_K0]
    refine lm_cI (lm_u136 (a := 0) (b := 0) (lm_arB hi) (lm_arB hj) (by omega) (by omega)) ?_
    simp only [Nat.zero_add, decide_true, Bool.true_and]
    cases lm_ev (fun t => lm_b8 (m (27 + 2 * i) t)) (fun t => lm_b8 (m (27 + 2 * j) t)) l 0 with
    | true => exact lm_iF (show ¬ (1 : Int32) = 0 by decide) (lm_iW (by decide) rfl)
    | false => exact lm_iT (show (0 : Int32) = 0 by decide) (lm_iW (by decide) rfl)
  · refine lm_neT (by omega) (by omega) e ?_
    rw [decide_eq_false e, Bool.false_and]
    exact lm_iW (by decide) rfl
theorem lm_u58a (h : ¬ ((0 : Int32) ≤ v ∧ v ≤ Int32.ofNat 7)) (hr : lm_rom x) : lm_cal sc (d + 2) 58 [.ref 0, .int v, .int w] (lm_w m n x) = some (.error (lm_xp x), lm_w m n (lm_xx 13 x)) := by
  refine lm_cal_of (Y := lm_m58) rfl rfl (lm_e58_0 ?_)
  unfold lm_q58_0
  exact lm_cVe (lm_u132e (d := d) (k := 7) h hr)
theorem lm_u58b (hi : i < 8) (h : ¬ ((0 : Int32) ≤ w ∧ w ≤ Int32.ofNat 7)) (hr : lm_rom x) : lm_cal sc (d + 2) 58 [.ref 0, .int (Int32.ofNat i), .int w] (lm_w m n x) = some (.error (lm_xp x), lm_w m n (lm_xx 13 x)) := by
  refine lm_cal_of (Y := lm_m58) rfl rfl (lm_e58_0 ?_)
  unfold lm_q58_0
  refine lm_cV (lm_t132n (i := i) (d := d) (n := 7) (by omega) (by omega)) ?_
  exact lm_cVe (lm_u132e (d := d) (k := 7) h hr)
theorem lm_l18 (hi : i < 8) (hj : j < 8) (h : m 214 i = Int32.ofNat l) (hl : l ≤ 65536) : ∀ k t (b : Bool), t + k = l → lm_rn sc d lm_m18.2.2.2.2.1 (lm_reg lm_m18.2.2.2.2.2) (57, [(0, .ref 203), (1, .int (Int32.ofNat i)), (2, .int (Int32.ofNat j)), (3, .int (lm_z b)), (4, .int (Int32.ofNat t))], []) (lm_w m n x) = some (.ok (some (.int (lm_z (b && lm_ev (fun t => lm_b8 (m (206 + i) t)) (fun t => lm_b8 (m (206 + j) t)) k t)))), lm_w m n x) := by
  intro k
  induction k with
  | zero =>
    intro t b ht
    have ht : t = l := ht
    subst ht
    refine lm_e18_57 ?_
    unfold lm_q18_57
    repeat (first
    | ((with_reducible apply lm_sI); exact rfl)
    | ((with_reducible apply lm_sR); exact rfl)
    | ((with_reducible apply lm_sS); exact rfl; exact rfl)
    | ((with_reducible apply lm_sL); exact rfl)
    | ((with_reducible apply lm_sP); exact rfl; exact rfl)
    | ((with_reducible apply lm_sPL); exact rfl; exact rfl)
    | ((with_reducible apply lm_sAA); exact rfl; first | exact rfl | exact lm_roO (by omega) | exact lm_roM (by omega))
    | ((with_reducible apply lm_sI); exact lm_fpL (by omega))
    | ((with_reducible apply lm_sR); exact lm_fpB (by omega))
    | ((with_reducible apply lm_sP); exact lm_fpL (by omega); exact rfl)
    | ((with_reducible apply lm_sS); exact lm_ocO (by omega); exact rfl)
    | ((with_reducible apply lm_sA); exact rfl; omega)
    | ((with_reducible apply lm_sJ); exact rfl; omega)
    | ((with_reducible apply lm_sB); (first | exact rfl | exact lm_arB (by omega) | exact lm_arM (by omega)); omega)
    | ((with_reducible apply lm_wA); exact rfl; omega)
    | ((with_reducible apply lm_wJ); exact rfl; omega)
    | ((with_reducible apply lm_wB); (first | exact rfl | exact lm_arB (by omega) | exact lm_arM (by omega)); omega)
    | ((with_reducible apply lm_sAl); (first | exact rfl | exact lm_arB (by omega) | exact lm_arM (by omega)); omega)
    | ((with_reducible apply lm_iW); decide))
    rw [h]
    refine lm_geT (by omega) (by omega) (by omega) ?_
    rw [show (b && lm_ev _ _ 0 t) = b from Bool.and_true b]
    exact lm_iW (by cases b <;> decide) rfl
  | succ k ih =>
    intro t b ht
    refine lm_e18_57 ?_
    unfold lm_q18_57
    repeat (first
    | ((with_reducible apply lm_sI); exact rfl)
    | ((with_reducible apply lm_sR); exact rfl)
    | ((with_reducible apply lm_sS); exact rfl; exact rfl)
    | ((with_reducible apply lm_sL); exact rfl)
    | ((with_reducible apply lm_sP); exact rfl; exact rfl)
    | ((with_reducible apply lm_sPL); exact rfl; exact rfl)
    | ((with_reducible apply lm_sAA); exact rfl; first | exact rfl | exact lm_roO (by omega) | exact lm_roM (by omega))
    | ((with_reducible apply lm_sI); exact lm_fpL (by omega))
    | ((with_reducible apply lm_sR); exact lm_fpB (by omega))
    | ((with_reducible apply lm_sP); exact lm_fpL (by omega); exact rfl)
    | ((with_reducible apply lm_sS); exact lm_ocO (by omega); exact rfl)
    | ((with_reducible apply lm_sA); exact rfl; omega)
    | ((with_reducible apply lm_sJ); exact rfl; omega)
    | ((with_reducible apply lm_sB); (first | exact rfl | exact lm_arB (by omega) | exact lm_arM (by omega)); omega)
    | ((with_reducible apply lm_wA); exact rfl; omega)
    | ((with_reducible apply lm_wJ); exact rfl; omega)
    | ((with_reducible apply lm_wB); (first | exact rfl | exact lm_arB (by omega) | exact lm_arM (by omega)); omega)
    | ((with_reducible apply lm_sAl); (first | exact rfl | exact lm_arB (by omega) | exact lm_arM (by omega)); omega)
    | ((with_reducible apply lm_iW); decide))
    rw [h]
    refine lm_geF (by omega) (by omega) (by omega) ?_
    repeat (first
    | ((with_reducible apply lm_sI); exact rfl)
    | ((with_reducible apply lm_sR); exact rfl)
    | ((with_reducible apply lm_sS); exact rfl; exact rfl)
    | ((with_reducible apply lm_sL); exact rfl)
    | ((with_reducible apply lm_sP); exact rfl; exact rfl)
    | ((with_reducible apply lm_sPL); exact rfl; exact rfl)
    | ((with_reducible apply lm_sAA); exact rfl; first | exact rfl | exact lm_roO (by omega) | exact lm_roM (by omega))
    | ((with_reducible apply lm_sI); exact lm_fpL (by omega))
    | ((with_reducible apply lm_sR); exact lm_fpB (by omega))
    | ((with_reducible apply lm_sP); exact lm_fpL (by omega); exact rfl)
    | ((with_reducible apply lm_sS); exact lm_ocO (by omega); exact rfl)
    | ((with_reducible apply lm_sA); exact rfl; omega)
    | ((with_reducible apply lm_sJ); exact rfl; omega)
    | ((with_reducible apply lm_sB); (first | exact rfl | exact lm_arB (by omega) | exact lm_arM (by omega)); omega)
    | ((with_reducible apply lm_wA); exact rfl; omega)
    | ((with_reducible apply lm_wJ); exact rfl; omega)
    | ((with_reducible apply lm_wB); (first | exact rfl | exact lm_arB (by omega) | exact lm_arM (by omega)); omega)
    | ((with_reducible apply lm_sAl); (first | exact rfl | exact lm_arB (by omega) | exact lm_arM (by omega)); omega)
    | ((with_reducible apply lm_iW); decide))
    unfold lm_ev
    by_cases e : lm_b8 (m (206 + i) t) = lm_b8 (m (206 + j) t)
    · refine lm_iT e ?_
      refine lm_e18_91 ?_
      unfold lm_q18_91
      rw [decide_eq_true e, cond_true, show Int32.ofNat t + Int32.ofInt 1 = Int32.ofNat (t + 1) from lm_oa t 1]
      exact ih (t + 1) b (by omega)
    · refine lm_iF e ?_
      refine lm_e18_91 ?_
      unfold lm_q18_91
      rw [decide_eq_false e, cond_false, Bool.and_false, show Int32.ofNat t + Int32.ofInt 1 = Int32.ofNat (t + 1) from lm_oa t 1]
      exact ih (t + 1) false (by omega)
theorem lm_u18 {l' : Nat} (hi : i < 8) (hj : j < 8) (h : m 214 i = Int32.ofNat l) (h' : m 214 j = Int32.ofNat l') (hl : l ≤ 65536) (hl' : l' ≤ 65536) : lm_cal sc (d + 2) 18 [.ref 203, .int (Int32.ofNat i), .int (Int32.ofNat j)] (lm_w m n x) = some (.ok (some (.int (lm_z (decide (l = l') && lm_ev (fun t => lm_b8 (m (206 + i) t)) (fun t => lm_b8 (m (206 + j) t)) l 0)))), lm_w (lm_u m 203 4 0) n x) := by
  refine lm_cal_of (Y := lm_m18) rfl rfl (lm_e18_0 ?_)
  unfold lm_q18_0
  refine lm_cI (lm_t52n (i := i) (d := d) (n := 7) (by omega) (by omega)) ?_
  refine lm_iF (show ¬ (1 : Int32) = 0 by decide) ?_
  refine lm_cI (lm_t52n (i := j) (d := d) (n := 7) (by omega) (by omega)) ?_
  refine lm_iF (show ¬ (1 : Int32) = 0 by decide) ?_
  refine lm_e18_26 ?_
  unfold lm_q18_26
  repeat (first
    | ((with_reducible apply lm_sI); exact rfl)
    | ((with_reducible apply lm_sR); exact rfl)
    | ((with_reducible apply lm_sS); exact rfl; exact rfl)
    | ((with_reducible apply lm_sL); exact rfl)
    | ((with_reducible apply lm_sP); exact rfl; exact rfl)
    | ((with_reducible apply lm_sPL); exact rfl; exact rfl)
    | ((with_reducible apply lm_sAA); exact rfl; first | exact rfl | exact lm_roO (by omega) | exact lm_roM (by omega))
    | ((with_reducible apply lm_sI); exact lm_fpL (by omega))
    | ((with_reducible apply lm_sR); exact lm_fpB (by omega))
    | ((with_reducible apply lm_sP); exact lm_fpL (by omega); exact rfl)
    | ((with_reducible apply lm_sS); exact lm_ocO (by omega); exact rfl)
    | ((with_reducible apply lm_sA); exact rfl; omega)
    | ((with_reducible apply lm_sJ); exact rfl; omega)
    | ((with_reducible apply lm_sB); (first | exact rfl | exact lm_arB (by omega) | exact lm_arM (by omega)); omega)
    | ((with_reducible apply lm_wA); exact rfl; omega)
    | ((with_reducible apply lm_wJ); exact rfl; omega)
    | ((with_reducible apply lm_wB); (first | exact rfl | exact lm_arB (by omega) | exact lm_arM (by omega)); omega)
    | ((with_reducible apply lm_sAl); (first | exact rfl | exact lm_arB (by omega) | exact lm_arM (by omega)); omega)
    | ((with_reducible apply lm_iW); decide))
  refine lm_cI (lm_u49 (d := d) true) ?_
  refine lm_iT (show ¬ (1 : Int32) = 0 by decide) ?_
  repeat (first
    | ((with_reducible apply lm_sI); exact rfl)
    | ((with_reducible apply lm_sR); exact rfl)
    | ((with_reducible apply lm_sS); exact rfl; exact rfl)
    | ((with_reducible apply lm_sL); exact rfl)
    | ((with_reducible apply lm_sP); exact rfl; exact rfl)
    | ((with_reducible apply lm_sPL); exact rfl; exact rfl)
    | ((with_reducible apply lm_sAA); exact rfl; first | exact rfl | exact lm_roO (by omega) | exact lm_roM (by omega))
    | ((with_reducible apply lm_sI); exact lm_fpL (by omega))
    | ((with_reducible apply lm_sR); exact lm_fpB (by omega))
    | ((with_reducible apply lm_sP); exact lm_fpL (by omega); exact rfl)
    | ((with_reducible apply lm_sS); exact lm_ocO (by omega); exact rfl)
    | ((with_reducible apply lm_sA); exact rfl; omega)
    | ((with_reducible apply lm_sJ); exact rfl; omega)
    | ((with_reducible apply lm_sB); (first | exact rfl | exact lm_arB (by omega) | exact lm_arM (by omega)); omega)
    | ((with_reducible apply lm_wA); exact rfl; omega)
    | ((with_reducible apply lm_wJ); exact rfl; omega)
    | ((with_reducible apply lm_wB); (first | exact rfl | exact lm_arB (by omega) | exact lm_arM (by omega)); omega)
    | ((with_reducible apply lm_sAl); (first | exact rfl | exact lm_arB (by omega) | exact lm_arM (by omega)); omega)
    | ((with_reducible apply lm_iW); decide))
  rw [show lm_u m 203 4 (cond true 0 (Int32.ofInt 1)) 214 i = Int32.ofNat l by rw [lm_u_row (by decide), h], show lm_u m 203 4 (cond true 0 (Int32.ofInt 1)) 214 j = Int32.ofNat l' by rw [lm_u_row (by decide), h']]
  by_cases e : l = l'
  · subst e
    refine lm_eqT (by omega) (by omega) rfl ?_
    have g := lm_l18 (sc := sc) (d := d + 1) (m := lm_u m 203 4 0) (n := n) (x := x) hi hj (by rw [lm_u_row (by decide), h]) hl l 0 true (by omega)
    rw [show lm_u m 203 4 0 (206 + i) = m (206 + i) from lm_u_row (by omega), show lm_u m 203 4 0 (206 + j) = m (206 + j) from lm_u_row (by omega)] at g
    simp only [decide_true]
    exact g
  · refine lm_eqF (by omega) (by omega) e ?_
    rw [decide_eq_false e, Bool.false_and]
    exact lm_iW (by decide) rfl
theorem lm_u18a (h : ¬ ((0 : Int32) ≤ v ∧ v ≤ Int32.ofNat 7)) : lm_cal sc (d + 2) 18 [.ref 203, .int v, .int w] (lm_w m n x) = some (.ok (some (.int 0)), lm_w (lm_u m 203 4 1) n x) := by
  refine lm_cal_of (Y := lm_m18) rfl rfl (lm_e18_0 ?_)
  unfold lm_q18_0
  refine lm_cI (lm_t52f (d := d) h) ?_
  refine lm_iT (show (0 : Int32) = 0 by decide) ?_
  refine lm_e18_25 ?_
  unfold lm_q18_25
  refine lm_e18_26 ?_
  unfold lm_q18_26
  repeat (first
    | ((with_reducible apply lm_sI); exact rfl)
    | ((with_reducible apply lm_sR); exact rfl)
    | ((with_reducible apply lm_sS); exact rfl; exact rfl)
    | ((with_reducible apply lm_sL); exact rfl)
    | ((with_reducible apply lm_sP); exact rfl; exact rfl)
    | ((with_reducible apply lm_sPL); exact rfl; exact rfl)
    | ((with_reducible apply lm_sAA); exact rfl; first | exact rfl | exact lm_roO (by omega) | exact lm_roM (by omega))
    | ((with_reducible apply lm_sI); exact lm_fpL (by omega))
    | ((with_reducible apply lm_sR); exact lm_fpB (by omega))
    | ((with_reducible apply lm_sP); exact lm_fpL (by omega); exact rfl)
    | ((with_reducible apply lm_sS); exact lm_ocO (by omega); exact rfl)
    | ((with_reducible apply lm_sA); exact rfl; omega)
    | ((with_reducible apply lm_sJ); exact rfl; omega)
    | ((with_reducible apply lm_sB); (first | exact rfl | exact lm_arB (by omega) | exact lm_arM (by omega)); omega)
    | ((with_reducible apply lm_wA); exact rfl; omega)
    | ((with_reducible apply lm_wJ); exact rfl; omega)
    | ((with_reducible apply lm_wB); (first | exact rfl | exact lm_arB (by omega) | exact lm_arM (by omega)); omega)
    | ((with_reducible apply lm_sAl); (first | exact rfl | exact lm_arB (by omega) | exact lm_arM (by omega)); omega)
    | ((with_reducible apply lm_iW); decide))
  refine lm_cI (lm_u49 (d := d) false) ?_
  refine lm_iF (show ¬ ¬ (0 : Int32) = 0 by decide) ?_
  exact lm_iW (by decide) rfl
theorem lm_u18b (hi : i < 8) (h : ¬ ((0 : Int32) ≤ w ∧ w ≤ Int32.ofNat 7)) : lm_cal sc (d + 2) 18 [.ref 203, .int (Int32.ofNat i), .int w] (lm_w m n x) = some (.ok (some (.int 0)), lm_w (lm_u m 203 4 1) n x) := by
  refine lm_cal_of (Y := lm_m18) rfl rfl (lm_e18_0 ?_)
  unfold lm_q18_0
  refine lm_cI (lm_t52n (i := i) (d := d) (n := 7) (by omega) (by omega)) ?_
  refine lm_iF (show ¬ (1 : Int32) = 0 by decide) ?_
  refine lm_cI (lm_t52f (d := d) h) ?_
  refine lm_iT (show (0 : Int32) = 0 by decide) ?_
  refine lm_e18_25 ?_
  unfold lm_q18_25
  refine lm_e18_26 ?_
  unfold lm_q18_26
  repeat (first
    | ((with_reducible apply lm_sI); exact rfl)
    | ((with_reducible apply lm_sR); exact rfl)
    | ((with_reducible apply lm_sS); exact rfl; exact rfl)
    | ((with_reducible apply lm_sL); exact rfl)
    | ((with_reducible apply lm_sP); exact rfl; exact rfl)
    | ((with_reducible apply lm_sPL); exact rfl; exact rfl)
    | ((with_reducible apply lm_sAA); exact rfl; first | exact rfl | exact lm_roO (by omega) | exact lm_roM (by omega))
    | ((with_reducible apply lm_sI); exact lm_fpL (by omega))
    | ((with_reducible apply lm_sR); exact lm_fpB (by omega))
    | ((with_reducible apply lm_sP); exact lm_fpL (by omega); exact rfl)
    | ((with_reducible apply lm_sS); exact lm_ocO (by omega); exact rfl)
    | ((with_reducible apply lm_sA); exact rfl; omega)
    | ((with_reducible apply lm_sJ); exact rfl; omega)
    | ((with_reducible apply lm_sB); (first | exact rfl | exact lm_arB (by omega) | exact lm_arM (by omega)); omega)
    | ((with_reducible apply lm_wA); exact rfl; omega)
    | ((with_reducible apply lm_wJ); exact rfl; omega)
    | ((with_reducible apply lm_wB); (first | exact rfl | exact lm_arB (by omega) | exact lm_arM (by omega)); omega)
    | ((with_reducible apply lm_sAl); (first | exact rfl | exact lm_arB (by omega) | exact lm_arM (by omega)); omega)
    | ((with_reducible apply lm_iW); decide))
  refine lm_cI (lm_u49 (d := d) false) ?_
  refine lm_iF (show ¬ ¬ (0 : Int32) = 0 by decide) ?_
  exact lm_iW (by decide) rfl
end LMC5
