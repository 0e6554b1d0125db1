/-! ===== SHA-512's compression, as the reference does it ===== -/
abbrev lm_T8 : Type := Int64 × Int64 × Int64 × Int64 × Int64 × Int64 × Int64 × Int64
def lm_rgt (v : Int64) (k : Int32) : Int64 := (lm_uL v k) ||| (v <<< ((Int32.toInt64 ((Int32.ofInt 64) - k)) &&& 63))
/-- the t-th word of a block -/
def lm_bw (b : Nat → Int32) (t : Nat) : Int64 := lm_wv (fun i => Int32.toInt64 (lm_b8 (b i)) &&& Int64.ofNat 255) 8 (8 * t) 0
def lm_sg (w : Nat → Int64) (t : Nat) : Int64 := ((((lm_rgt (w (t - 2)) (Int32.ofInt 19) ^^^ lm_rgt (w (t - 2)) (Int32.ofInt 61)) ^^^ (lm_uL (w (t - 2)) (Int32.ofInt 6))) + w (t - 7)) + ((lm_rgt (w (t - 15)) (Int32.ofInt 1) ^^^ lm_rgt (w (t - 15)) (Int32.ofInt 8)) ^^^ (lm_uL (w (t - 15)) (Int32.ofInt 7)))) + w (t - 16)
/-- the schedule, k words behind the sixteen -/
def lm_wsc (b : Nat → Int32) : Nat → Nat → Int64
  | 0 => lm_bw b
  | k + 1 => fun t => if t = 16 + k then lm_sg (lm_wsc b k) (16 + k) else lm_wsc b k t
def lm_f5 (k w : Int64) (s : lm_T8) : Int64 := (((s.2.2.2.2.2.2.2 + ((lm_rgt s.2.2.2.2.1 (Int32.ofInt 14) ^^^ lm_rgt s.2.2.2.2.1 (Int32.ofInt 18)) ^^^ lm_rgt s.2.2.2.2.1 (Int32.ofInt 41))) + ((s.2.2.2.2.1 &&& s.2.2.2.2.2.1) ^^^ ((s.2.2.2.2.1 ^^^ (Int64.ofNat 18446744073709551615)) &&& s.2.2.2.2.2.2.1))) + k) + w
def lm_gg5 (s : lm_T8) : Int64 := ((lm_rgt s.1 (Int32.ofInt 28) ^^^ lm_rgt s.1 (Int32.ofInt 34)) ^^^ lm_rgt s.1 (Int32.ofInt 39)) + (((s.1 &&& s.2.1) ^^^ (s.1 &&& s.2.2.1)) ^^^ (s.2.1 &&& s.2.2.1))
def lm_t5 (k w : Int64) (s : lm_T8) : lm_T8 := (lm_f5 k w s + lm_gg5 s, s.1, s.2.1, s.2.2.1, s.2.2.2.1 + lm_f5 k w s, s.2.2.2.2.1, s.2.2.2.2.2.1, s.2.2.2.2.2.2.1)
/-- k rounds from t on -/
def lm_r5 (K W : Nat → Int64) : Nat → Nat → lm_T8 → lm_T8
  | 0, _, s => s
  | k + 1, t, s => lm_r5 K W k (t + 1) (lm_t5 (K t) (W t) s)
def lm_of8 (s : Nat → Int64) : lm_T8 := (s 0, s 1, s 2, s 3, s 4, s 5, s 6, s 7)
def lm_add8 (s : Nat → Int64) (r : lm_T8) : Nat → Int64 := fun i => match i with
  | 0 => s 0 + r.1
  | 1 => s 1 + r.2.1
  | 2 => s 2 + r.2.2.1
  | 3 => s 3 + r.2.2.2.1
  | 4 => s 4 + r.2.2.2.2.1
  | 5 => s 5 + r.2.2.2.2.2.1
  | 6 => s 6 + r.2.2.2.2.2.2.1
  | 7 => s 7 + r.2.2.2.2.2.2.2
  | i => s i
/-- the compression: the state behind a block, by the eighty constants -/
def lm_cc5 (K : Nat → Int64) (s : Nat → Int64) (b : Nat → Int32) : Nat → Int64 := lm_add8 s (lm_r5 K (lm_wsc b 64) 80 0 (lm_of8 s))
theorem lm_ws_lo {b : Nat → Int32} : ∀ k j t, t < 16 + k → lm_wsc b (k + j) t = lm_wsc b k t := by
  intro k j
  induction j with
  | zero => intros; rfl
  | succ j ih =>
    intro t ht
    rw [← Nat.add_assoc]
    show (if t = 16 + (k + j) then _ else lm_wsc b (k + j) t) = _
    rw [if_neg (by omega), ih t ht]
section LMS5
variable {sc : lm_H} {d : Nat} {m : lm_MI} {x : lm_H × Nat × Nat} {n0 : lm_ML}
theorem lm_u226 {v : Int64} {k : Int32} {σ : lm_S} : lm_cal sc (d + 1) 226 [.long v, .int k] σ = some (.ok (some (.long (lm_rgt v k))), σ) := by
  refine lm_cal_of (Y := lm_m226) rfl rfl (lm_e226_0 ?_)
  unfold lm_q226_0
  exact rfl
/-- only words and state are written -/
def lm_fw (n0 n : lm_ML) : Prop := ∀ q, q ≠ 223 → q ≠ 226 → n q = n0 q
theorem lm_fw.u {n : lm_ML} {q a : Nat} {v : Int64} (h : lm_fw n0 n) (hq : q = 223 ∨ q = 226) : lm_fw n0 (lm_u n q a v) := fun p h1 h2 => (lm_u_row (by omega)).trans (h p h1 h2)
/-- how the compression ends -/
def lm_RS (m : lm_MI) (x : lm_H × Nat × Nat) (n0 : lm_ML) (S : Nat → Int64) (o : Option (Except Nat lm_R × lm_S)) : Prop := ∃ n', o = some (.ok none, lm_w m n' x) ∧ n' 223 = S ∧ lm_fw n0 n'
theorem lm_l156r {n : lm_ML} {W : Nat → Int64} (hW : ∀ t, t < 80 → n 226 t = W t) (hn : lm_fw n0 n) : ∀ k t (s : lm_T8), t + k = 80 → lm_RS m x n0 (lm_add8 (n 223) (lm_r5 (n 216) W k t s)) (lm_rn sc (d + 1) lm_m156.2.2.2.2.1 (lm_reg lm_m156.2.2.2.2.2) (234, [(0, .ref 203), (1, .long s.1), (3, .long s.2.1), (5, .long s.2.2.1), (7, .long s.2.2.2.1), (9, .long s.2.2.2.2.1), (11, .long s.2.2.2.2.2.1), (13, .long s.2.2.2.2.2.2.1), (15, .long s.2.2.2.2.2.2.2), (17, .int (Int32.ofNat t))], []) (lm_w m n x)) := by
  intro k
  induction k with
  | zero =>
    intro t s ht
    have ht : t = 80 := ht
    subst ht
    refine ⟨lm_u (lm_u (lm_u (lm_u (lm_u (lm_u (lm_u (lm_u n 223 0 (n 223 0 + s.1)) 223 1 (n 223 1 + s.2.1)) 223 2 (n 223 2 + s.2.2.1)) 223 3 (n 223 3 + s.2.2.2.1)) 223 4 (n 223 4 + s.2.2.2.2.1)) 223 5 (n 223 5 + s.2.2.2.2.2.1)) 223 6 (n 223 6 + s.2.2.2.2.2.2.1)) 223 7 (n 223 7 + s.2.2.2.2.2.2.2), ?_, ?_, ?_⟩
    · refine lm_e156_234 ?_
      unfold lm_q156_234
      simp only [lm_K80, lm_K0, lm_K1, lm_K2, lm_K3, lm_K4, lm_K5, lm_K6, lm_K7]
      refine lm_geT (by decide) (by decide) (by decide) ?_
      repeat (first
    | ((with_reducible apply lm_sI); exact rfl)
    | ((with_reducible apply lm_sR); exact rfl)
    | ((with_reducible apply lm_sS); exact rfl; exact rfl)
    | ((with_reducible apply lm_sL); exact rfl)
    | ((with_reducible apply lm_sP); exact rfl; exact rfl)
    | ((with_reducible apply lm_sPL); exact rfl; exact rfl)
    | ((with_reducible apply lm_sAA); exact rfl; first | exact rfl | exact lm_roO (by omega) | exact lm_roM (by omega))
    | ((with_reducible apply lm_sI); exact lm_fpL (by omega))
    | ((with_reducible apply lm_sR); exact lm_fpB (by omega))
    | ((with_reducible apply lm_sP); exact lm_fpL (by omega); exact rfl)
    | ((with_reducible apply lm_sS); exact lm_ocO (by omega); exact rfl)
    | ((with_reducible apply lm_sA); exact rfl; omega)
    | ((with_reducible apply lm_sJ); exact rfl; omega)
    | ((with_reducible apply lm_sB); (first | exact rfl | exact lm_arB (by omega) | exact lm_arM (by omega)); omega)
    | ((with_reducible apply lm_wA); exact rfl; omega)
    | ((with_reducible apply lm_wJ); exact rfl; omega)
    | ((with_reducible apply lm_wB); (first | exact rfl | exact lm_arB (by omega) | exact lm_arM (by omega)); omega)
    | ((with_reducible apply lm_sAl); (first | exact rfl | exact lm_arB (by omega) | exact lm_arM (by omega)); omega)
    | ((with_reducible apply lm_iW); decide))
      simp only [lm_rd, Nat.reduceEqDiff, and_false, if_false]
      exact rfl
    · funext i
      simp only [lm_rd, true_and]
      match i with
      | 0 => rfl
      | 1 => rfl
      | 2 => rfl
      | 3 => rfl
      | 4 => rfl
      | 5 => rfl
      | 6 => rfl
      | 7 => rfl
      | i + 8 => simp [lm_add8, lm_r5]
    · exact (((((((hn.u (Or.inl rfl)).u (Or.inl rfl)).u (Or.inl rfl)).u (Or.inl rfl)).u (Or.inl rfl)).u (Or.inl rfl)).u (Or.inl rfl)).u (Or.inl rfl)
  | succ k ih =>
    intro t s ht
    obtain ⟨n', e, f1, f2⟩ := ih (t + 1) (lm_t5 (n 216 t) (W t) s) (by omega)
    refine ⟨n', ?_, f1, f2⟩
    refine lm_e156_234 ?_
    unfold lm_q156_234
    rw [lm_K80]
    refine lm_geF (by omega) (by omega) (by omega) ?_
    refine lm_cLg lm_u226 (lm_cLg lm_u226 (lm_cLg lm_u226 ?_))
    repeat (first
    | ((with_reducible apply lm_sI); exact rfl)
    | ((with_reducible apply lm_sR); exact rfl)
    | ((with_reducible apply lm_sS); exact rfl; exact rfl)
    | ((with_reducible apply lm_sL); exact rfl)
    | ((with_reducible apply lm_sP); exact rfl; exact rfl)
    | ((with_reducible apply lm_sPL); exact rfl; exact rfl)
    | ((with_reducible apply lm_sAA); exact rfl; first | exact rfl | exact lm_roO (by omega) | exact lm_roM (by omega))
    | ((with_reducible apply lm_sI); exact lm_fpL (by omega))
    | ((with_reducible apply lm_sR); exact lm_fpB (by omega))
    | ((with_reducible apply lm_sP); exact lm_fpL (by omega); exact rfl)
    | ((with_reducible apply lm_sS); exact lm_ocO (by omega); exact rfl)
    | ((with_reducible apply lm_sA); exact rfl; omega)
    | ((with_reducible apply lm_sJ); exact rfl; omega)
    | ((with_reducible apply lm_sB); (first | exact rfl | exact lm_arB (by omega) | exact lm_arM (by omega)); omega)
    | ((with_reducible apply lm_wA); exact rfl; omega)
    | ((with_reducible apply lm_wJ); exact rfl; omega)
    | ((with_reducible apply lm_wB); (first | exact rfl | exact lm_arB (by omega) | exact lm_arM (by omega)); omega)
    | ((with_reducible apply lm_sAl); (first | exact rfl | exact lm_arB (by omega) | exact lm_arM (by omega)); omega)
    | ((with_reducible apply lm_iW); decide))
    refine lm_cLg lm_u226 (lm_cLg lm_u226 (lm_cLg lm_u226 ?_))
    rw [hW t (by omega), show Int32.ofNat t + Int32.ofInt 1 = Int32.ofNat (t + 1) from lm_oa t 1]
    exact e
theorem lm_l156s {b : Nat → Int32} : ∀ k j (n : lm_ML), j + k = 64 → (∀ t, t < 16 + j → n 226 t = lm_wsc b j t) → lm_fw n0 n → (∀ q, q ≠ 226 → n q = n0 q) → lm_RS m x n0 (lm_cc5 (n0 216) (n0 223) b) (lm_rn sc (d + 1) lm_m156.2.2.2.2.1 (lm_reg lm_m156.2.2.2.2.2) (70, [(0, .ref 203), (1, .int (Int32.ofNat (16 + j)))], []) (lm_w m n x)) := by
  intro k
  induction k with
  | zero =>
    intro j n hj h1 h2 h3
    have hj : j = 64 := hj
    subst hj
    have h := lm_l156r (sc := sc) (d := d) (m := m) (x := x) (n0 := n0) (n := n) (W := lm_wsc b 64) h1 h2 80 0 (lm_of8 (n 223)) rfl
    rw [h3 223 (by decide), h3 216 (by decide)] at h
    obtain ⟨n', e, f1, f2⟩ := h
    refine ⟨n', ?_, f1, f2⟩
    refine lm_e156_70 ?_
    unfold lm_q156_70
    simp only [lm_K80, lm_K0, lm_K1, lm_K2, lm_K3, lm_K4, lm_K5, lm_K6, lm_K7]
    refine lm_geT (by decide) (by decide) (by decide) ?_
    repeat (first
    | ((with_reducible apply lm_sI); exact rfl)
    | ((with_reducible apply lm_sR); exact rfl)
    | ((with_reducible apply lm_sS); exact rfl; exact rfl)
    | ((with_reducible apply lm_sL); exact rfl)
    | ((with_reducible apply lm_sP); exact rfl; exact rfl)
    | ((with_reducible apply lm_sPL); exact rfl; exact rfl)
    | ((with_reducible apply lm_sAA); exact rfl; first | exact rfl | exact lm_roO (by omega) | exact lm_roM (by omega))
    | ((with_reducible apply lm_sI); exact lm_fpL (by omega))
    | ((with_reducible apply lm_sR); exact lm_fpB (by omega))
    | ((with_reducible apply lm_sP); exact lm_fpL (by omega); exact rfl)
    | ((with_reducible apply lm_sS); exact lm_ocO (by omega); exact rfl)
    | ((with_reducible apply lm_sA); exact rfl; omega)
    | ((with_reducible apply lm_sJ); exact rfl; omega)
    | ((with_reducible apply lm_sB); (first | exact rfl | exact lm_arB (by omega) | exact lm_arM (by omega)); omega)
    | ((with_reducible apply lm_wA); exact rfl; omega)
    | ((with_reducible apply lm_wJ); exact rfl; omega)
    | ((with_reducible apply lm_wB); (first | exact rfl | exact lm_arB (by omega) | exact lm_arM (by omega)); omega)
    | ((with_reducible apply lm_sAl); (first | exact rfl | exact lm_arB (by omega) | exact lm_arM (by omega)); omega)
    | ((with_reducible apply lm_iW); decide))
    rw [h3 223 (by decide)]
    exact e
  | succ k ih =>
    intro j n hj h1 h2 h3
    have e2 : n 226 (16 + j - 2) = lm_wsc b j (16 + j - 2) := h1 _ (by omega)
    have e7 : n 226 (16 + j - 7) = lm_wsc b j (16 + j - 7) := h1 _ (by omega)
    have e15 : n 226 (16 + j - 15) = lm_wsc b j (16 + j - 15) := h1 _ (by omega)
    have e16 : n 226 (16 + j - 16) = lm_wsc b j (16 + j - 16) := h1 _ (by omega)
    obtain ⟨n', e, f1, f2⟩ := ih (j + 1) (lm_u n 226 (16 + j) (lm_sg (lm_wsc b j) (16 + j))) (by omega) (fun t ht => by
      show _ = if t = 16 + j then _ else _
      by_cases g : t = 16 + j
      · rw [g, lm_u_eq, if_pos rfl]
      · rw [lm_u_ne (fun g2 => g g2.2), if_neg g]
        exact h1 t (by omega)) (h2.u (Or.inr rfl)) (fun q hq => (lm_u_row hq).trans (h3 q hq))
    refine ⟨n', ?_, f1, f2⟩
    refine lm_e156_70 ?_
    unfold lm_q156_70
    rw [lm_K80]
    refine lm_geF (by omega) (by omega) (by omega) ?_
    rw [show Int32.ofNat (16 + j) - Int32.ofInt 2 = Int32.ofNat (16 + j - 2) by rw [lm_K2, lm_osu (by omega)], show Int32.ofNat (16 + j) - Int32.ofInt 15 = Int32.ofNat (16 + j - 15) by rw [lm_K15, lm_osu (by omega)], show Int32.ofNat (16 + j) - Int32.ofInt 7 = Int32.ofNat (16 + j - 7) by rw [lm_K7, lm_osu (by omega)], show Int32.ofNat (16 + j) - Int32.ofInt 16 = Int32.ofNat (16 + j - 16) by rw [lm_K16, lm_osu (by omega)]]
    repeat (first
    | ((with_reducible apply lm_sI); exact rfl)
    | ((with_reducible apply lm_sR); exact rfl)
    | ((with_reducible apply lm_sS); exact rfl; exact rfl)
    | ((with_reducible apply lm_sL); exact rfl)
    | ((with_reducible apply lm_sP); exact rfl; exact rfl)
    | ((with_reducible apply lm_sPL); exact rfl; exact rfl)
    | ((with_reducible apply lm_sAA); exact rfl; first | exact rfl | exact lm_roO (by omega) | exact lm_roM (by omega))
    | ((with_reducible apply lm_sI); exact lm_fpL (by omega))
    | ((with_reducible apply lm_sR); exact lm_fpB (by omega))
    | ((with_reducible apply lm_sP); exact lm_fpL (by omega); exact rfl)
    | ((with_reducible apply lm_sS); exact lm_ocO (by omega); exact rfl)
    | ((with_reducible apply lm_sA); exact rfl; omega)
    | ((with_reducible apply lm_sJ); exact rfl; omega)
    | ((with_reducible apply lm_sB); (first | exact rfl | exact lm_arB (by omega) | exact lm_arM (by omega)); omega)
    | ((with_reducible apply lm_wA); exact rfl; omega)
    | ((with_reducible apply lm_wJ); exact rfl; omega)
    | ((with_reducible apply lm_wB); (first | exact rfl | exact lm_arB (by omega) | exact lm_arM (by omega)); omega)
    | ((with_reducible apply lm_sAl); (first | exact rfl | exact lm_arB (by omega) | exact lm_arM (by omega)); omega)
    | ((with_reducible apply lm_iW); decide))
    refine lm_cLg lm_u226 (lm_cLg lm_u226 ?_)
    repeat (first
    | ((with_reducible apply lm_sI); exact rfl)
    | ((with_reducible apply lm_sR); exact rfl)
    | ((with_reducible apply lm_sS); exact rfl; exact rfl)
    | ((with_reducible apply lm_sL); exact rfl)
    | ((with_reducible apply lm_sP); exact rfl; exact rfl)
    | ((with_reducible apply lm_sPL); exact rfl; exact rfl)
    | ((with_reducible apply lm_sAA); exact rfl; first | exact rfl | exact lm_roO (by omega) | exact lm_roM (by omega))
    | ((with_reducible apply lm_sI); exact lm_fpL (by omega))
    | ((with_reducible apply lm_sR); exact lm_fpB (by omega))
    | ((with_reducible apply lm_sP); exact lm_fpL (by omega); exact rfl)
    | ((with_reducible apply lm_sS); exact lm_ocO (by omega); exact rfl)
    | ((with_reducible apply lm_sA); exact rfl; omega)
    | ((with_reducible apply lm_sJ); exact rfl; omega)
    | ((with_reducible apply lm_sB); (first | exact rfl | exact lm_arB (by omega) | exact lm_arM (by omega)); omega)
    | ((with_reducible apply lm_wA); exact rfl; omega)
    | ((with_reducible apply lm_wJ); exact rfl; omega)
    | ((with_reducible apply lm_wB); (first | exact rfl | exact lm_arB (by omega) | exact lm_arM (by omega)); omega)
    | ((with_reducible apply lm_sAl); (first | exact rfl | exact lm_arB (by omega) | exact lm_arM (by omega)); omega)
    | ((with_reducible apply lm_iW); decide))
    refine lm_cLg lm_u226 (lm_cLg lm_u226 ?_)
    repeat (first
    | ((with_reducible apply lm_sI); exact rfl)
    | ((with_reducible apply lm_sR); exact rfl)
    | ((with_reducible apply lm_sS); exact rfl; exact rfl)
    | ((with_reducible apply lm_sL); exact rfl)
    | ((with_reducible apply lm_sP); exact rfl; exact rfl)
    | ((with_reducible apply lm_sPL); exact rfl; exact rfl)
    | ((with_reducible apply lm_sAA); exact rfl; first | exact rfl | exact lm_roO (by omega) | exact lm_roM (by omega))
    | ((with_reducible apply lm_sI); exact lm_fpL (by omega))
    | ((with_reducible apply lm_sR); exact lm_fpB (by omega))
    | ((with_reducible apply lm_sP); exact lm_fpL (by omega); exact rfl)
    | ((with_reducible apply lm_sS); exact lm_ocO (by omega); exact rfl)
    | ((with_reducible apply lm_sA); exact rfl; omega)
    | ((with_reducible apply lm_sJ); exact rfl; omega)
    | ((with_reducible apply lm_sB); (first | exact rfl | exact lm_arB (by omega) | exact lm_arM (by omega)); omega)
    | ((with_reducible apply lm_wA); exact rfl; omega)
    | ((with_reducible apply lm_wJ); exact rfl; omega)
    | ((with_reducible apply lm_wB); (first | exact rfl | exact lm_arB (by omega) | exact lm_arM (by omega)); omega)
    | ((with_reducible apply lm_sAl); (first | exact rfl | exact lm_arB (by omega) | exact lm_arM (by omega)); omega)
    | ((with_reducible apply lm_iW); decide))
    rw [e2, e7, e15, e16, show Int32.ofNat (16 + j) + Int32.ofInt 1 = Int32.ofNat (16 + (j + 1)) from lm_oa (16 + j) 1]
    exact e
/-- the eight bytes of a word -/
theorem lm_l156b {n : lm_ML} {i : Nat} (hi : i < 16) {r : Except Nat lm_R × lm_S} (K : lm_rn sc d lm_m156.2.2.2.2.1 (lm_reg lm_m156.2.2.2.2.2) (2, [(0, .ref 203), (1, .int (Int32.ofNat (i + 1)))], []) (lm_w m (lm_u n 226 i (lm_bw (m 227) i)) x) = some r) : ∀ k j a, j + k = 8 → lm_wv (fun i => Int32.toInt64 (lm_b8 (m 227 i)) &&& Int64.ofNat 255) k (8 * i + j) a = lm_bw (m 227) i → lm_rn sc d lm_m156.2.2.2.2.1 (lm_reg lm_m156.2.2.2.2.2) (17, [(0, .ref 203), (1, .int (Int32.ofNat i)), (2, .int (Int32.ofNat j))], []) (lm_w m (lm_u n 226 i a) x) = some r := by
  intro k
  induction k with
  | zero =>
    intro j a hj h
    have hj : j = 8 := hj
    subst hj
    refine lm_e156_17 ?_
    unfold lm_q156_17
    rw [lm_K8, show Int32.ofNat i + Int32.ofInt 1 = Int32.ofNat (i + 1) from lm_oa i 1]
    refine lm_geT (by decide) (by decide) (by decide) ?_
    have h : a = lm_bw (m 227) i := h
    rw [h]
    exact K
  | succ k ih =>
    intro j a hj h
    refine lm_e156_17 ?_
    unfold lm_q156_17
    rw [show Int32.ofInt 8 * Int32.ofNat i + Int32.ofNat j = Int32.ofNat (8 * i + j) by rw [lm_K8, lm_om, lm_oo]]
    refine lm_geF (b := 8) (by omega) (by omega) (by omega) ?_
    repeat (first
    | ((with_reducible apply lm_sI); exact rfl)
    | ((with_reducible apply lm_sR); exact rfl)
    | ((with_reducible apply lm_sS); exact rfl; exact rfl)
    | ((with_reducible apply lm_sL); exact rfl)
    | ((with_reducible apply lm_sP); exact rfl; exact rfl)
    | ((with_reducible apply lm_sPL); exact rfl; exact rfl)
    | ((with_reducible apply lm_sAA); exact rfl; first | exact rfl | exact lm_roO (by omega) | exact lm_roM (by omega))
    | ((with_reducible apply lm_sI); exact lm_fpL (by omega))
    | ((with_reducible apply lm_sR); exact lm_fpB (by omega))
    | ((with_reducible apply lm_sP); exact lm_fpL (by omega); exact rfl)
    | ((with_reducible apply lm_sS); exact lm_ocO (by omega); exact rfl)
    | ((with_reducible apply lm_sA); exact rfl; omega)
    | ((with_reducible apply lm_sJ); exact rfl; omega)
    | ((with_reducible apply lm_sB); (first | exact rfl | exact lm_arB (by omega) | exact lm_arM (by omega)); omega)
    | ((with_reducible apply lm_wA); exact rfl; omega)
    | ((with_reducible apply lm_wJ); exact rfl; omega)
    | ((with_reducible apply lm_wB); (first | exact rfl | exact lm_arB (by omega) | exact lm_arM (by omega)); omega)
    | ((with_reducible apply lm_sAl); (first | exact rfl | exact lm_arB (by omega) | exact lm_arM (by omega)); omega)
    | ((with_reducible apply lm_iW); decide))
    rw [lm_u_eq, lm_uu, show Int32.ofNat j + Int32.ofInt 1 = Int32.ofNat (j + 1) from lm_oa j 1]
    exact ih (j + 1) _ (by omega) h
theorem lm_l156w : ∀ k t (n : lm_ML), t + k = 16 → (∀ i, i < t → n 226 i = lm_bw (m 227) i) → (∀ q, q ≠ 226 → n q = n0 q) → lm_RS m x n0 (lm_cc5 (n0 216) (n0 223) (m 227)) (lm_rn sc (d + 1) lm_m156.2.2.2.2.1 (lm_reg lm_m156.2.2.2.2.2) (2, [(0, .ref 203), (1, .int (Int32.ofNat t))], []) (lm_w m n x)) := by
  intro k
  induction k with
  | zero =>
    intro t n ht h1 h2
    have ht : t = 16 := ht
    subst ht
    obtain ⟨n', e, f1, f2⟩ := lm_l156s (sc := sc) (d := d) (m := m) (x := x) (n0 := n0) (b := m 227) 64 0 n rfl h1 (fun q _ hq => h2 q hq) h2
    refine ⟨n', ?_, f1, f2⟩
    refine lm_e156_2 ?_
    unfold lm_q156_2
    rw [lm_K16]
    exact lm_geT (by decide) (by decide) (by decide) e
  | succ k ih =>
    intro t n ht h1 h2
    obtain ⟨n', e, f1, f2⟩ := ih (t + 1) (lm_u n 226 t (lm_bw (m 227) t)) (by omega) (fun i hi => by
      by_cases g : i = t
      · rw [g, lm_u_eq]
      · rw [lm_u_ne (fun g2 => g g2.2)]
        exact h1 i (by omega)) (fun q hq => (lm_u_row hq).trans (h2 q hq))
    refine ⟨n', ?_, f1, f2⟩
    refine lm_e156_2 ?_
    unfold lm_q156_2
    rw [lm_K16, lm_K0]
    refine lm_geF (by omega) (by omega) (by omega) ?_
    repeat (first
    | ((with_reducible apply lm_sI); exact rfl)
    | ((with_reducible apply lm_sR); exact rfl)
    | ((with_reducible apply lm_sS); exact rfl; exact rfl)
    | ((with_reducible apply lm_sL); exact rfl)
    | ((with_reducible apply lm_sP); exact rfl; exact rfl)
    | ((with_reducible apply lm_sPL); exact rfl; exact rfl)
    | ((with_reducible apply lm_sAA); exact rfl; first | exact rfl | exact lm_roO (by omega) | exact lm_roM (by omega))
    | ((with_reducible apply lm_sI); exact lm_fpL (by omega))
    | ((with_reducible apply lm_sR); exact lm_fpB (by omega))
    | ((with_reducible apply lm_sP); exact lm_fpL (by omega); exact rfl)
    | ((with_reducible apply lm_sS); exact lm_ocO (by omega); exact rfl)
    | ((with_reducible apply lm_sA); exact rfl; omega)
    | ((with_reducible apply lm_sJ); exact rfl; omega)
    | ((with_reducible apply lm_sB); (first | exact rfl | exact lm_arB (by omega) | exact lm_arM (by omega)); omega)
    | ((with_reducible apply lm_wA); exact rfl; omega)
    | ((with_reducible apply lm_wJ); exact rfl; omega)
    | ((with_reducible apply lm_wB); (first | exact rfl | exact lm_arB (by omega) | exact lm_arM (by omega)); omega)
    | ((with_reducible apply lm_sAl); (first | exact rfl | exact lm_arB (by omega) | exact lm_arM (by omega)); omega)
    | ((with_reducible apply lm_iW); decide))
    exact lm_l156b (by omega) e 8 0 0 rfl rfl
/-- compress64 -/
theorem lm_u156 {n : lm_ML} : lm_RS m x n (lm_cc5 (n 216) (n 223) (m 227)) (lm_cal sc (d + 2) 156 [.ref 203] (lm_w m n x)) := by
  obtain ⟨n', e, f1, f2⟩ := lm_l156w (sc := sc) (d := d) (m := m) (x := x) (n0 := n) 16 0 n rfl (fun i hi => by omega) (fun _ _ => rfl)
  refine ⟨n', ?_, f1, f2⟩
  refine lm_cal_of (Y := lm_m156) rfl rfl (lm_e156_0 ?_)
  unfold lm_q156_0
  rw [lm_K0]
  exact e
end LMS5
