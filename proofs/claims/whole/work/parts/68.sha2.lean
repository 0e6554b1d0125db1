/-! ===== SHA-256's compression, as the reference does it ===== -/
abbrev lm_I8 : Type := Int32 × Int32 × Int32 × Int32 × Int32 × Int32 × Int32 × Int32
def lm_trn (v k : Int32) : Int32 := (lm_us v k) ||| (v <<< (((Int32.ofInt 32) - k) &&& 31))
def lm_vw (g : Nat → Int32) : Nat → Nat → Int32 → Int32
  | 0, _, x => x
  | k + 1, t, x => lm_vw g k (t + 1) ((x <<< ((Int32.ofInt 8) &&& 31)) ||| g t)
/-- the t-th word of a block -/
def lm_bv (b : Nat → Int32) (t : Nat) : Int32 := lm_vw (fun i => lm_b8 (b i) &&& Int32.ofInt 255) 4 (4 * t) 0
def lm_sv2 (w : Nat → Int32) (t : Nat) : Int32 := ((((lm_trn (w (t - 2)) (Int32.ofInt 17) ^^^ lm_trn (w (t - 2)) (Int32.ofInt 19)) ^^^ (lm_us (w (t - 2)) (Int32.ofInt 10))) + w (t - 7)) + ((lm_trn (w (t - 15)) (Int32.ofInt 7) ^^^ lm_trn (w (t - 15)) (Int32.ofInt 18)) ^^^ (lm_us (w (t - 15)) (Int32.ofInt 3)))) + w (t - 16)
def lm_vs (b : Nat → Int32) : Nat → Nat → Int32
  | 0 => lm_bv b
  | k + 1 => fun t => if t = 16 + k then lm_sv2 (lm_vs b k) (16 + k) else lm_vs b k t
def lm_f2' (k w : Int32) (s : lm_I8) : Int32 := (((s.2.2.2.2.2.2.2 + ((lm_trn s.2.2.2.2.1 (Int32.ofInt 6) ^^^ lm_trn s.2.2.2.2.1 (Int32.ofInt 11)) ^^^ lm_trn s.2.2.2.2.1 (Int32.ofInt 25))) + ((s.2.2.2.2.1 &&& s.2.2.2.2.2.1) ^^^ ((s.2.2.2.2.1 ^^^ (Int32.ofInt (-1))) &&& s.2.2.2.2.2.2.1))) + k) + w
def lm_gg2 (s : lm_I8) : Int32 := ((lm_trn s.1 (Int32.ofInt 2) ^^^ lm_trn s.1 (Int32.ofInt 13)) ^^^ lm_trn s.1 (Int32.ofInt 22)) + (((s.1 &&& s.2.1) ^^^ (s.1 &&& s.2.2.1)) ^^^ (s.2.1 &&& s.2.2.1))
def lm_t2 (k w : Int32) (s : lm_I8) : lm_I8 := (lm_f2' k w s + lm_gg2 s, s.1, s.2.1, s.2.2.1, s.2.2.2.1 + lm_f2' k w s, s.2.2.2.2.1, s.2.2.2.2.2.1, s.2.2.2.2.2.2.1)
def lm_kw (K : Nat → Int64) (t : Nat) : Int32 := Int64.toInt32 (lm_uL (K t) (Int32.ofInt 32))
def lm_r2 (K W : Nat → Int32) : Nat → Nat → lm_I8 → lm_I8
  | 0, _, s => s
  | k + 1, t, s => lm_r2 K W k (t + 1) (lm_t2 (K t) (W t) s)
def lm_of8i (s : Nat → Int64) : lm_I8 := (Int64.toInt32 (s 0), Int64.toInt32 (s 1), Int64.toInt32 (s 2), Int64.toInt32 (s 3), Int64.toInt32 (s 4), Int64.toInt32 (s 5), Int64.toInt32 (s 6), Int64.toInt32 (s 7))
def lm_add8i (s : Nat → Int64) (r : lm_I8) : Nat → Int64 := fun i => match i with
  | 0 => s 0 + Int32.toInt64 r.1
  | 1 => s 1 + Int32.toInt64 r.2.1
  | 2 => s 2 + Int32.toInt64 r.2.2.1
  | 3 => s 3 + Int32.toInt64 r.2.2.2.1
  | 4 => s 4 + Int32.toInt64 r.2.2.2.2.1
  | 5 => s 5 + Int32.toInt64 r.2.2.2.2.2.1
  | 6 => s 6 + Int32.toInt64 r.2.2.2.2.2.2.1
  | 7 => s 7 + Int32.toInt64 r.2.2.2.2.2.2.2
  | i => s i
def lm_cc2 (K : Nat → Int64) (s : Nat → Int64) (b : Nat → Int32) : Nat → Int64 := lm_add8i s (lm_r2 (lm_kw K) (lm_vs b 48) 64 0 (lm_of8i s))
theorem lm_i2l2i (v : Int32) : Int64.toInt32 (Int32.toInt64 v) = v := by simp
section LMS2
variable {sc : lm_H} {d : Nat} {m : lm_MI} {x : lm_H × Nat × Nat} {n0 : lm_ML}
theorem lm_u225 {v k : Int32} {σ : lm_S} : lm_cal sc (d + 1) 225 [.int v, .int k] σ = some (.ok (some (.int (lm_trn v k))), σ) := by
  refine lm_cal_of (Y := lm_m225) rfl rfl (lm_e225_0 ?_)
  unfold lm_q225_0
  exact rfl
theorem lm_l155r {n : lm_ML} {W : Nat → Int32} (hW : ∀ t, t < 64 → Int64.toInt32 (n 226 t) = W t) (hn : lm_fw n0 n) : ∀ k t (s : lm_I8), t + k = 64 → lm_RS m x n0 (lm_add8i (n 223) (lm_r2 (lm_kw (n 216)) W k t s)) (lm_rn sc (d + 1) lm_m155.2.2.2.2.1 (lm_reg lm_m155.2.2.2.2.2) (232, [(0, .ref 203), (1, .int s.1), (2, .int s.2.1), (3, .int s.2.2.1), (4, .int s.2.2.2.1), (5, .int s.2.2.2.2.1), (6, .int s.2.2.2.2.2.1), (7, .int s.2.2.2.2.2.2.1), (8, .int s.2.2.2.2.2.2.2), (9, .int (Int32.ofNat t))], []) (lm_w m n x)) := by
  intro k
  induction k with
  | zero =>
    intro t s ht
    have ht : t = 64 := ht
    subst ht
    refine ⟨lm_u (lm_u (lm_u (lm_u (lm_u (lm_u (lm_u (lm_u n 223 0 (n 223 0 + Int32.toInt64 s.1)) 223 1 (n 223 1 + Int32.toInt64 s.2.1)) 223 2 (n 223 2 + Int32.toInt64 s.2.2.1)) 223 3 (n 223 3 + Int32.toInt64 s.2.2.2.1)) 223 4 (n 223 4 + Int32.toInt64 s.2.2.2.2.1)) 223 5 (n 223 5 + Int32.toInt64 s.2.2.2.2.2.1)) 223 6 (n 223 6 + Int32.toInt64 s.2.2.2.2.2.2.1)) 223 7 (n 223 7 + Int32.toInt64 s.2.2.2.2.2.2.2), ?_, ?_, ?_⟩
    · refine lm_e155_232 ?_
      unfold lm_q155_232
      simp only [lm_K64, lm_K0, lm_K1, lm_K2, lm_K3, lm_K4, lm_K5, lm_K6, lm_K7]
      refine lm_geT (by decide) (by decide) (by decide) ?_
      repeat (first
    | ((with_reducible apply lm_sI); exact rfl)
    | ((with_reducible apply lm_sR); exact rfl)
    | ((with_reducible apply lm_sS); exact rfl; exact rfl)
    | ((with_reducible apply lm_sL); exact rfl)
    | ((with_reducible apply lm_sP); exact rfl; exact rfl)
    | ((with_reducible apply lm_sPL); exact rfl; exact rfl)
    | ((with_reducible apply lm_sAA); exact rfl; first | exact rfl | exact lm_roO (by omega) | exact lm_roM (by omega))
    | ((with_reducible apply lm_sI); exact lm_fpL (by omega))
    | ((with_reducible apply lm_sR); exact lm_fpB (by omega))
    | ((with_reducible apply lm_sP); exact lm_fpL (by omega); exact rfl)
    | ((with_reducible apply lm_sS); exact lm_ocO (by omega); exact rfl)
    | ((with_reducible apply lm_sA); exact rfl; omega)
    | ((with_reducible apply lm_sJ); exact rfl; omega)
    | ((with_reducible apply lm_sB); (first | exact rfl | exact lm_arB (by omega) | exact lm_arM (by omega)); omega)
    | ((with_reducible apply lm_wA); exact rfl; omega)
    | ((with_reducible apply lm_wJ); exact rfl; omega)
    | ((with_reducible apply lm_wB); (first | exact rfl | exact lm_arB (by omega) | exact lm_arM (by omega)); omega)
    | ((with_reducible apply lm_sAl); (first | exact rfl | exact lm_arB (by omega) | exact lm_arM (by omega)); omega)
    | ((with_reducible apply lm_iW); decide))
      simp only [lm_rd, Nat.reduceEqDiff, and_false, if_false]
      exact rfl
    · funext i
      simp only [lm_rd, true_and]
      match i with
      | 0 => rfl
      | 1 => rfl
      | 2 => rfl
      | 3 => rfl
      | 4 => rfl
      | 5 => rfl
      | 6 => rfl
      | 7 => rfl
      | i + 8 => simp [lm_add8i, lm_r2]
    · exact (((((((hn.u (Or.inl rfl)).u (Or.inl rfl)).u (Or.inl rfl)).u (Or.inl rfl)).u (Or.inl rfl)).u (Or.inl rfl)).u (Or.inl rfl)).u (Or.inl rfl)
  | succ k ih =>
    intro t s ht
    obtain ⟨n', e, f1, f2⟩ := ih (t + 1) (lm_t2 (lm_kw (n 216) t) (W t) s) (by omega)
    refine ⟨n', ?_, f1, f2⟩
    refine lm_e155_232 ?_
    unfold lm_q155_232
    rw [lm_K64]
    refine lm_geF (by omega) (by omega) (by omega) ?_
    refine lm_cI lm_u225 (lm_cI lm_u225 (lm_cI lm_u225 ?_))
    repeat (first
    | ((with_reducible apply lm_sI); exact rfl)
    | ((with_reducible apply lm_sR); exact rfl)
    | ((with_reducible apply lm_sS); exact rfl; exact rfl)
    | ((with_reducible apply lm_sL); exact rfl)
    | ((with_reducible apply lm_sP); exact rfl; exact rfl)
    | ((with_reducible apply lm_sPL); exact rfl; exact rfl)
    | ((with_reducible apply lm_sAA); exact rfl; first | exact rfl | exact lm_roO (by omega) | exact lm_roM (by omega))
    | ((with_reducible apply lm_sI); exact lm_fpL (by omega))
    | ((with_reducible apply lm_sR); exact lm_fpB (by omega))
    | ((with_reducible apply lm_sP); exact lm_fpL (by omega); exact rfl)
    | ((with_reducible apply lm_sS); exact lm_ocO (by omega); exact rfl)
    | ((with_reducible apply lm_sA); exact rfl; omega)
    | ((with_reducible apply lm_sJ); exact rfl; omega)
    | ((with_reducible apply lm_sB); (first | exact rfl | exact lm_arB (by omega) | exact lm_arM (by omega)); omega)
    | ((with_reducible apply lm_wA); exact rfl; omega)
    | ((with_reducible apply lm_wJ); exact rfl; omega)
    | ((with_reducible apply lm_wB); (first | exact rfl | exact lm_arB (by omega) | exact lm_arM (by omega)); omega)
    | ((with_reducible apply lm_sAl); (first | exact rfl | exact lm_arB (by omega) | exact lm_arM (by omega)); omega)
    | ((with_reducible apply lm_iW); decide))
    refine lm_cI lm_u225 (lm_cI lm_u225 (lm_cI lm_u225 ?_))
    rw [hW t (by omega), show Int32.ofNat t + Int32.ofInt 1 = Int32.ofNat (t + 1) from lm_oa t 1]
    exact e
theorem lm_l155s {b : Nat → Int32} : ∀ k j (n : lm_ML), j + k = 48 → (∀ t, t < 16 + j → Int64.toInt32 (n 226 t) = lm_vs b j t) → lm_fw n0 n → (∀ q, q ≠ 226 → n q = n0 q) → lm_RS m x n0 (lm_cc2 (n0 216) (n0 223) b) (lm_rn sc (d + 1) lm_m155.2.2.2.2.1 (lm_reg lm_m155.2.2.2.2.2) (60, [(0, .ref 203), (1, .int (Int32.ofNat (16 + j)))], []) (lm_w m n x)) := by
  intro k
  induction k with
  | zero =>
    intro j n hj h1 h2 h3
    have hj : j = 48 := hj
    subst hj
    have h := lm_l155r (sc := sc) (d := d) (m := m) (x := x) (n0 := n0) (n := n) (W := lm_vs b 48) h1 h2 64 0 (lm_of8i (n 223)) rfl
    rw [h3 223 (by decide), h3 216 (by decide)] at h
    obtain ⟨n', e, f1, f2⟩ := h
    refine ⟨n', ?_, f1, f2⟩
    refine lm_e155_60 ?_
    unfold lm_q155_60
    simp only [lm_K64, lm_K0, lm_K1, lm_K2, lm_K3, lm_K4, lm_K5, lm_K6, lm_K7]
    refine lm_geT (by decide) (by decide) (by decide) ?_
    repeat (first
    | ((with_reducible apply lm_sI); exact rfl)
    | ((with_reducible apply lm_sR); exact rfl)
    | ((with_reducible apply lm_sS); exact rfl; exact rfl)
    | ((with_reducible apply lm_sL); exact rfl)
    | ((with_reducible apply lm_sP); exact rfl; exact rfl)
    | ((with_reducible apply lm_sPL); exact rfl; exact rfl)
    | ((with_reducible apply lm_sAA); exact rfl; first | exact rfl | exact lm_roO (by omega) | exact lm_roM (by omega))
    | ((with_reducible apply lm_sI); exact lm_fpL (by omega))
    | ((with_reducible apply lm_sR); exact lm_fpB (by omega))
    | ((with_reducible apply lm_sP); exact lm_fpL (by omega); exact rfl)
    | ((with_reducible apply lm_sS); exact lm_ocO (by omega); exact rfl)
    | ((with_reducible apply lm_sA); exact rfl; omega)
    | ((with_reducible apply lm_sJ); exact rfl; omega)
    | ((with_reducible apply lm_sB); (first | exact rfl | exact lm_arB (by omega) | exact lm_arM (by omega)); omega)
    | ((with_reducible apply lm_wA); exact rfl; omega)
    | ((with_reducible apply lm_wJ); exact rfl; omega)
    | ((with_reducible apply lm_wB); (first | exact rfl | exact lm_arB (by omega) | exact lm_arM (by omega)); omega)
    | ((with_reducible apply lm_sAl); (first | exact rfl | exact lm_arB (by omega) | exact lm_arM (by omega)); omega)
    | ((with_reducible apply lm_iW); decide))
    rw [h3 223 (by decide)]
    exact e
  | succ k ih =>
    intro j n hj h1 h2 h3
    have e2 := h1 (16 + j - 2) (by omega)
    have e7 := h1 (16 + j - 7) (by omega)
    have e15 := h1 (16 + j - 15) (by omega)
    have e16 := h1 (16 + j - 16) (by omega)
    obtain ⟨n', e, f1, f2⟩ := ih (j + 1) (lm_u n 226 (16 + j) (Int32.toInt64 (lm_sv2 (lm_vs b j) (16 + j)))) (by omega) (fun t ht => by
      show _ = if t = 16 + j then _ else _
      by_cases g : t = 16 + j
      · rw [g, lm_u_eq, if_pos rfl, lm_i2l2i]
      · rw [lm_u_ne (fun g2 => g g2.2), if_neg g]
        exact h1 t (by omega)) (h2.u (Or.inr rfl)) (fun q hq => (lm_u_row hq).trans (h3 q hq))
    refine ⟨n', ?_, f1, f2⟩
    refine lm_e155_60 ?_
    unfold lm_q155_60
    rw [lm_K64]
    refine lm_geF (by omega) (by omega) (by omega) ?_
    rw [show Int32.ofNat (16 + j) - Int32.ofInt 2 = Int32.ofNat (16 + j - 2) by rw [lm_K2, lm_osu (by omega)], show Int32.ofNat (16 + j) - Int32.ofInt 15 = Int32.ofNat (16 + j - 15) by rw [lm_K15, lm_osu (by omega)], show Int32.ofNat (16 + j) - Int32.ofInt 7 = Int32.ofNat (16 + j - 7) by rw [lm_K7, lm_osu (by omega)], show Int32.ofNat (16 + j) - Int32.ofInt 16 = Int32.ofNat (16 + j - 16) by rw [lm_K16, lm_osu (by omega)]]
    repeat (first
    | ((with_reducible apply lm_sI); exact rfl)
    | ((with_reducible apply lm_sR); exact rfl)
    | ((with_reducible apply lm_sS); exact rfl; exact rfl)
    | ((with_reducible apply lm_sL); exact rfl)
    | ((with_reducible apply lm_sP); exact rfl; exact rfl)
    | ((with_reducible apply lm_sPL); exact rfl; exact rfl)
    | ((with_reducible apply lm_sAA); exact rfl; first | exact rfl | exact lm_roO (by omega) | exact lm_roM (by omega))
    | ((with_reducible apply lm_sI); exact lm_fpL (by omega))
    | ((with_reducible apply lm_sR); exact lm_fpB (by omega))
    | ((with_reducible apply lm_sP); exact lm_fpL (by omega); exact rfl)
    | ((with_reducible apply lm_sS); exact lm_ocO (by omega); exact rfl)
    | ((with_reducible apply lm_sA); exact rfl; omega)
    | ((with_reducible apply lm_sJ); exact rfl; omega)
    | ((with_reducible apply lm_sB); (first | exact rfl | exact lm_arB (by omega) | exact lm_arM (by omega)); omega)
    | ((with_reducible apply lm_wA); exact rfl; omega)
    | ((with_reducible apply lm_wJ); exact rfl; omega)
    | ((with_reducible apply lm_wB); (first | exact rfl | exact lm_arB (by omega) | exact lm_arM (by omega)); omega)
    | ((with_reducible apply lm_sAl); (first | exact rfl | exact lm_arB (by omega) | exact lm_arM (by omega)); omega)
    | ((with_reducible apply lm_iW); decide))
    refine lm_cI lm_u225 (lm_cI lm_u225 ?_)
    repeat (first
    | ((with_reducible apply lm_sI); exact rfl)
    | ((with_reducible apply lm_sR); exact rfl)
    | ((with_reducible apply lm_sS); exact rfl; exact rfl)
    | ((with_reducible apply lm_sL); exact rfl)
    | ((with_reducible apply lm_sP); exact rfl; exact rfl)
    | ((with_reducible apply lm_sPL); exact rfl; exact rfl)
    | ((with_reducible apply lm_sAA); exact rfl; first | exact rfl | exact lm_roO (by omega) | exact lm_roM (by omega))
    | ((with_reducible apply lm_sI); exact lm_fpL (by omega))
    | ((with_reducible apply lm_sR); exact lm_fpB (by omega))
    | ((with_reducible apply lm_sP); exact lm_fpL (by omega); exact rfl)
    | ((with_reducible apply lm_sS); exact lm_ocO (by omega); exact rfl)
    | ((with_reducible apply lm_sA); exact rfl; omega)
    | ((with_reducible apply lm_sJ); exact rfl; omega)
    | ((with_reducible apply lm_sB); (first | exact rfl | exact lm_arB (by omega) | exact lm_arM (by omega)); omega)
    | ((with_reducible apply lm_wA); exact rfl; omega)
    | ((with_reducible apply lm_wJ); exact rfl; omega)
    | ((with_reducible apply lm_wB); (first | exact rfl | exact lm_arB (by omega) | exact lm_arM (by omega)); omega)
    | ((with_reducible apply lm_sAl); (first | exact rfl | exact lm_arB (by omega) | exact lm_arM (by omega)); omega)
    | ((with_reducible apply lm_iW); decide))
    refine lm_cI lm_u225 (lm_cI lm_u225 ?_)
    repeat (first
    | ((with_reducible apply lm_sI); exact rfl)
    | ((with_reducible apply lm_sR); exact rfl)
    | ((with_reducible apply lm_sS); exact rfl; exact rfl)
    | ((with_reducible apply lm_sL); exact rfl)
    | ((with_reducible apply lm_sP); exact rfl; exact rfl)
    | ((with_reducible apply lm_sPL); exact rfl; exact rfl)
    | ((with_reducible apply lm_sAA); exact rfl; first | exact rfl | exact lm_roO (by omega) | exact lm_roM (by omega))
    | ((with_reducible apply lm_sI); exact lm_fpL (by omega))
    | ((with_reducible apply lm_sR); exact lm_fpB (by omega))
    | ((with_reducible apply lm_sP); exact lm_fpL (by omega); exact rfl)
    | ((with_reducible apply lm_sS); exact lm_ocO (by omega); exact rfl)
    | ((with_reducible apply lm_sA); exact rfl; omega)
    | ((with_reducible apply lm_sJ); exact rfl; omega)
    | ((with_reducible apply lm_sB); (first | exact rfl | exact lm_arB (by omega) | exact lm_arM (by omega)); omega)
    | ((with_reducible apply lm_wA); exact rfl; omega)
    | ((with_reducible apply lm_wJ); exact rfl; omega)
    | ((with_reducible apply lm_wB); (first | exact rfl | exact lm_arB (by omega) | exact lm_arM (by omega)); omega)
    | ((with_reducible apply lm_sAl); (first | exact rfl | exact lm_arB (by omega) | exact lm_arM (by omega)); omega)
    | ((with_reducible apply lm_iW); decide))
    rw [e2, e7, e15, e16, show Int32.ofNat (16 + j) + Int32.ofInt 1 = Int32.ofNat (16 + (j + 1)) from lm_oa (16 + j) 1]
    exact e
theorem lm_l155b {n : lm_ML} {i : Nat} (hi : i < 16) {r : Except Nat lm_R × lm_S} (K : lm_rn sc d lm_m155.2.2.2.2.1 (lm_reg lm_m155.2.2.2.2.2) (2, [(0, .ref 203), (1, .int (Int32.ofNat (i + 1)))], []) (lm_w m (lm_u n 226 i (Int32.toInt64 (lm_bv (m 227) i))) x) = some r) : ∀ k j a, j + k = 4 → lm_vw (fun i => lm_b8 (m 227 i) &&& Int32.ofInt 255) k (4 * i + j) a = lm_bv (m 227) i → lm_rn sc d lm_m155.2.2.2.2.1 (lm_reg lm_m155.2.2.2.2.2) (12, [(0, .ref 203), (1, .int (Int32.ofNat i)), (2, .int a), (3, .int (Int32.ofNat j))], []) (lm_w m n x) = some r := by
  intro k
  induction k with
  | zero =>
    intro j a hj h
    have hj : j = 4 := hj
    subst hj
    have h : a = lm_bv (m 227) i := h
    subst h
    refine lm_e155_12 ?_
    unfold lm_q155_12
    rw [lm_K4, show Int32.ofNat i + Int32.ofInt 1 = Int32.ofNat (i + 1) from lm_oa i 1]
    refine lm_geT (by decide) (by decide) (by decide) ?_
    repeat (first
    | ((with_reducible apply lm_sI); exact rfl)
    | ((with_reducible apply lm_sR); exact rfl)
    | ((with_reducible apply lm_sS); exact rfl; exact rfl)
    | ((with_reducible apply lm_sL); exact rfl)
    | ((with_reducible apply lm_sP); exact rfl; exact rfl)
    | ((with_reducible apply lm_sPL); exact rfl; exact rfl)
    | ((with_reducible apply lm_sAA); exact rfl; first | exact rfl | exact lm_roO (by omega) | exact lm_roM (by omega))
    | ((with_reducible apply lm_sI); exact lm_fpL (by omega))
    | ((with_reducible apply lm_sR); exact lm_fpB (by omega))
    | ((with_reducible apply lm_sP); exact lm_fpL (by omega); exact rfl)
    | ((with_reducible apply lm_sS); exact lm_ocO (by omega); exact rfl)
    | ((with_reducible apply lm_sA); exact rfl; omega)
    | ((with_reducible apply lm_sJ); exact rfl; omega)
    | ((with_reducible apply lm_sB); (first | exact rfl | exact lm_arB (by omega) | exact lm_arM (by omega)); omega)
    | ((with_reducible apply lm_wA); exact rfl; omega)
    | ((with_reducible apply lm_wJ); exact rfl; omega)
    | ((with_reducible apply lm_wB); (first | exact rfl | exact lm_arB (by omega) | exact lm_arM (by omega)); omega)
    | ((with_reducible apply lm_sAl); (first | exact rfl | exact lm_arB (by omega) | exact lm_arM (by omega)); omega)
    | ((with_reducible apply lm_iW); decide))
    exact K
  | succ k ih =>
    intro j a hj h
    refine lm_e155_12 ?_
    unfold lm_q155_12
    rw [show Int32.ofInt 4 * Int32.ofNat i + Int32.ofNat j = Int32.ofNat (4 * i + j) by rw [lm_K4, lm_om, lm_oo]]
    refine lm_geF (b := 4) (by omega) (by omega) (by omega) ?_
    repeat (first
    | ((with_reducible apply lm_sI); exact rfl)
    | ((with_reducible apply lm_sR); exact rfl)
    | ((with_reducible apply lm_sS); exact rfl; exact rfl)
    | ((with_reducible apply lm_sL); exact rfl)
    | ((with_reducible apply lm_sP); exact rfl; exact rfl)
    | ((with_reducible apply lm_sPL); exact rfl; exact rfl)
    | ((with_reducible apply lm_sAA); exact rfl; first | exact rfl | exact lm_roO (by omega) | exact lm_roM (by omega))
    | ((with_reducible apply lm_sI); exact lm_fpL (by omega))
    | ((with_reducible apply lm_sR); exact lm_fpB (by omega))
    | ((with_reducible apply lm_sP); exact lm_fpL (by omega); exact rfl)
    | ((with_reducible apply lm_sS); exact lm_ocO (by omega); exact rfl)
    | ((with_reducible apply lm_sA); exact rfl; omega)
    | ((with_reducible apply lm_sJ); exact rfl; omega)
    | ((with_reducible apply lm_sB); (first | exact rfl | exact lm_arB (by omega) | exact lm_arM (by omega)); omega)
    | ((with_reducible apply lm_wA); exact rfl; omega)
    | ((with_reducible apply lm_wJ); exact rfl; omega)
    | ((with_reducible apply lm_wB); (first | exact rfl | exact lm_arB (by omega) | exact lm_arM (by omega)); omega)
    | ((with_reducible apply lm_sAl); (first | exact rfl | exact lm_arB (by omega) | exact lm_arM (by omega)); omega)
    | ((with_reducible apply lm_iW); decide))
    rw [show Int32.ofNat j + Int32.ofInt 1 = Int32.ofNat (j + 1) from lm_oa j 1]
    exact ih (j + 1) _ (by omega) h
theorem lm_l155w : ∀ k t (n : lm_ML), t + k = 16 → (∀ i, i < t → Int64.toInt32 (n 226 i) = lm_bv (m 227) i) → (∀ q, q ≠ 226 → n q = n0 q) → lm_RS m x n0 (lm_cc2 (n0 216) (n0 223) (m 227)) (lm_rn sc (d + 1) lm_m155.2.2.2.2.1 (lm_reg lm_m155.2.2.2.2.2) (2, [(0, .ref 203), (1, .int (Int32.ofNat t))], []) (lm_w m n x)) := by
  intro k
  induction k with
  | zero =>
    intro t n ht h1 h2
    have ht : t = 16 := ht
    subst ht
    obtain ⟨n', e, f1, f2⟩ := lm_l155s (sc := sc) (d := d) (m := m) (x := x) (n0 := n0) (b := m 227) 48 0 n rfl h1 (fun q _ hq => h2 q hq) h2
    refine ⟨n', ?_, f1, f2⟩
    refine lm_e155_2 ?_
    unfold lm_q155_2
    rw [lm_K16]
    exact lm_geT (by decide) (by decide) (by decide) e
  | succ k ih =>
    intro t n ht h1 h2
    obtain ⟨n', e, f1, f2⟩ := ih (t + 1) (lm_u n 226 t (Int32.toInt64 (lm_bv (m 227) t))) (by omega) (fun i hi => by
      by_cases g : i = t
      · rw [g, lm_u_eq, lm_i2l2i]
      · rw [lm_u_ne (fun g2 => g g2.2)]
        exact h1 i (by omega)) (fun q hq => (lm_u_row hq).trans (h2 q hq))
    refine ⟨n', ?_, f1, f2⟩
    refine lm_e155_2 ?_
    unfold lm_q155_2
    rw [lm_K16, lm_K0]
    refine lm_geF (by omega) (by omega) (by omega) ?_
    exact lm_l155b (by omega) e 4 0 _ rfl rfl
/-- compress32 -/
theorem lm_u155 {n : lm_ML} : lm_RS m x n (lm_cc2 (n 216) (n 223) (m 227)) (lm_cal sc (d + 2) 155 [.ref 203] (lm_w m n x)) := by
  obtain ⟨n', e, f1, f2⟩ := lm_l155w (sc := sc) (d := d) (m := m) (x := x) (n0 := n) 16 0 n rfl (fun i hi => by omega) (fun _ _ => rfl)
  refine ⟨n', ?_, f1, f2⟩
  refine lm_cal_of (Y := lm_m155) rfl rfl (lm_e155_0 ?_)
  unfold lm_q155_0
  rw [lm_K0]
  exact e
end LMS2
