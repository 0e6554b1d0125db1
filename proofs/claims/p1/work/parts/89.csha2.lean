/-! ===== the class's SHA-256: a block ===== -/
theorem lm_bt255 : ∀ j, j < 32 → (255#32).getLsbD j = decide (j < 8) := by decide
theorem lm_b24 (x : BitVec 32) : (x &&& 255#32) <<< 24 = x <<< 24 := by
  refine BitVec.eq_of_getLsbD_eq fun i hi => ?_
  rw [BitVec.getLsbD_shiftLeft, BitVec.getLsbD_shiftLeft, BitVec.getLsbD_and]
  by_cases c : i < 24
  · simp [c]
  · rw [lm_bt255 (i - 24) (by omega), decide_eq_true (show i - 24 < 8 by omega), Bool.and_true]
theorem lm_bwd (a b c e : Int32) : (((a <<< ((Int32.ofInt 24) &&& 31)) ||| ((b &&& (Int32.ofInt 255)) <<< ((Int32.ofInt 16) &&& 31))) ||| ((c &&& (Int32.ofInt 255)) <<< ((Int32.ofInt 8) &&& 31))) ||| (e &&& (Int32.ofInt 255)) = (((((((0 : Int32) <<< ((Int32.ofInt 8) &&& 31)) ||| (a &&& Int32.ofInt 255)) <<< ((Int32.ofInt 8) &&& 31)) ||| (b &&& Int32.ofInt 255)) <<< ((Int32.ofInt 8) &&& 31)) ||| (c &&& Int32.ofInt 255)) <<< ((Int32.ofInt 8) &&& 31) ||| (e &&& Int32.ofInt 255) := by
  apply Int32.toBitVec_inj.mp
  show (((a.toBitVec <<< 24) ||| ((b.toBitVec &&& 255#32) <<< 16)) ||| ((c.toBitVec &&& 255#32) <<< 8)) ||| (e.toBitVec &&& 255#32) = (((((((0#32) <<< 8) ||| (a.toBitVec &&& 255#32)) <<< 8) ||| (b.toBitVec &&& 255#32)) <<< 8) ||| (c.toBitVec &&& 255#32)) <<< 8 ||| (e.toBitVec &&& 255#32)
  simp only [BitVec.shiftLeft_or_distrib, ← BitVec.shiftLeft_add]
  rw [← lm_b24 a.toBitVec]
  simp
theorem lm_ac2 (h s c k w : Int32) : (((h + c) + k) + w) + s = (((h + s) + c) + k) + w := by
  rw [Int32.add_assoc h s c, Int32.add_comm s c, ← Int32.add_assoc h c s, Int32.add_assoc (h + c) s k, Int32.add_comm s k, ← Int32.add_assoc (h + c) k s, Int32.add_assoc ((h + c) + k) s w, Int32.add_comm s w, ← Int32.add_assoc]
def lm_o8v (s : Nat → Int32) : lm_I8 := (s 0, s 1, s 2, s 3, s 4, s 5, s 6, s 7)
def lm_a8v (s : Nat → Int32) (r : lm_I8) : Nat → Int32 := fun i => match i with
  | 0 => s 0 + r.1
  | 1 => s 1 + r.2.1
  | 2 => s 2 + r.2.2.1
  | 3 => s 3 + r.2.2.2.1
  | 4 => s 4 + r.2.2.2.2.1
  | 5 => s 5 + r.2.2.2.2.2.1
  | 6 => s 6 + r.2.2.2.2.2.2.1
  | 7 => s 7 + r.2.2.2.2.2.2.2
  | i => s i
def lm_cv2 (K : Nat → Int64) (s : Nat → Int32) (b : Nat → Int32) : Nat → Int32 := lm_a8v s (lm_r2 (lm_kw K) (lm_vs b 48) 64 0 (lm_o8v s))
/-- the same as the reference's, word for word -/
theorem lm_cv2_eq {K : Nat → Int64} {s : Nat → Int32} {S : Nat → Int64} {b : Nat → Int32} (h : ∀ i, i < 8 → s i = Int64.toInt32 (S i)) : ∀ i, i < 8 → lm_cv2 K s b i = Int64.toInt32 (lm_cc2 K S b i) := by
  intro i hi
  have e : lm_o8v s = lm_of8i S := by
    unfold lm_o8v lm_of8i
    rw [h 0 (by decide), h 1 (by decide), h 2 (by decide), h 3 (by decide), h 4 (by decide), h 5 (by decide), h 6 (by decide), h 7 (by decide)]
  unfold lm_cv2 lm_cc2
  rw [e]
  generalize lm_r2 (lm_kw K) (lm_vs b 48) 64 0 (lm_of8i S) = r
  match i, hi with
  | 0, _ => show s 0 + r.1 = Int64.toInt32 (S 0 + Int32.toInt64 r.1); rw [Int64.toInt32_add, lm_i2l2i, h 0 (by decide)]
  | 1, _ => show s 1 + _ = Int64.toInt32 (S 1 + Int32.toInt64 _); rw [Int64.toInt32_add, lm_i2l2i, h 1 (by decide)]
  | 2, _ => show s 2 + _ = Int64.toInt32 (S 2 + Int32.toInt64 _); rw [Int64.toInt32_add, lm_i2l2i, h 2 (by decide)]
  | 3, _ => show s 3 + _ = Int64.toInt32 (S 3 + Int32.toInt64 _); rw [Int64.toInt32_add, lm_i2l2i, h 3 (by decide)]
  | 4, _ => show s 4 + _ = Int64.toInt32 (S 4 + Int32.toInt64 _); rw [Int64.toInt32_add, lm_i2l2i, h 4 (by decide)]
  | 5, _ => show s 5 + _ = Int64.toInt32 (S 5 + Int32.toInt64 _); rw [Int64.toInt32_add, lm_i2l2i, h 5 (by decide)]
  | 6, _ => show s 6 + _ = Int64.toInt32 (S 6 + Int32.toInt64 _); rw [Int64.toInt32_add, lm_i2l2i, h 6 (by decide)]
  | 7, _ => show s 7 + _ = Int64.toInt32 (S 7 + Int32.toInt64 _); rw [Int64.toInt32_add, lm_i2l2i, h 7 (by decide)]
section LMC2
variable {sc : lm_H} {d : Nat} {n : lm_ML} {x : lm_H × Nat × Nat} {m0 : lm_MI} {ys : List Int64}
theorem lm_u276 {v k : Int32} {σ : lm_S} (h : (-k) &&& 31 = ((Int32.ofInt 32) - k) &&& 31) : lm_cal sc (d + 1) 276 [.int v, .int k] σ = some (.ok (some (.int (lm_trn v k))), σ) := by
  refine lm_cal_of (Y := lm_m276) rfl rfl (lm_e276_0 ?_)
  unfold lm_q276_0 lm_trn
  rw [h]
  exact rfl
def lm_fv2 (m0 m : lm_MI) : Prop := ∀ q, q ≠ 14 → q ≠ 16 → m q = m0 q
theorem lm_fv2.u {m : lm_MI} {q a : Nat} {v : Int32} (h : lm_fv2 m0 m) (hq : q = 14 ∨ q = 16) : lm_fv2 m0 (lm_u m q a v) := fun p h1 h2 => (lm_u_row (by omega)).trans (h p h1 h2)
def lm_RV2 (n : lm_ML) (x : lm_H × Nat × Nat) (m0 : lm_MI) (S : Nat → Int32) (o : Option (Except Nat lm_R × lm_S)) : Prop := ∃ m', o = some (.ok none, lm_w m' n x) ∧ m' 14 = S ∧ lm_fv2 m0 m'
theorem lm_l207r {m : lm_MI} {W : Nat → Int32} (hs : sc[5]? = some (.inr (.inl ys))) (hy : ys.length = 80) (hW : ∀ t, t < 64 → m 16 t = W t) (hn : lm_fv2 m0 m) : ∀ k t (s : lm_I8), t + k = 64 → lm_RV2 n x m0 (lm_a8v (m 14) (lm_r2 (lm_kw (fun t => ys.getD t 0)) W k t s)) (lm_rn sc (d + 1) lm_m207.2.2.2.2.1 (lm_reg lm_m207.2.2.2.2.2) (233, [(0, .ref 11), (1, .ref 16), (2, .int s.1), (3, .int s.2.1), (4, .int s.2.2.1), (5, .int s.2.2.2.1), (6, .int s.2.2.2.2.1), (7, .int s.2.2.2.2.2.1), (8, .int s.2.2.2.2.2.2.1), (9, .int s.2.2.2.2.2.2.2), (10, .int (Int32.ofNat t))], []) (lm_w m n x)) := by
  intro k
  induction k with
  | zero =>
    intro t s ht
    have ht : t = 64 := ht
    subst ht
    refine ⟨lm_u (lm_u (lm_u (lm_u (lm_u (lm_u (lm_u (lm_u m 14 0 (m 14 0 + s.1)) 14 1 (m 14 1 + s.2.1)) 14 2 (m 14 2 + s.2.2.1)) 14 3 (m 14 3 + s.2.2.2.1)) 14 4 (m 14 4 + s.2.2.2.2.1)) 14 5 (m 14 5 + s.2.2.2.2.2.1)) 14 6 (m 14 6 + s.2.2.2.2.2.2.1)) 14 7 (m 14 7 + s.2.2.2.2.2.2.2), ?_, ?_, ?_⟩
    · refine lm_e207_233 ?_
      unfold lm_q207_233
      simp only [lm_K64, lm_K0, lm_K1, lm_K2, lm_K3, lm_K4, lm_K5, lm_K6, lm_K7]
      refine lm_geT (by decide) (by decide) (by decide) ?_
      repeat (first
    | ((with_reducible apply lm_sI); exact rfl)
    | ((with_reducible apply lm_sR); exact rfl)
    | ((with_reducible apply lm_sS); exact rfl; exact rfl)
    | ((with_reducible apply lm_sL); exact rfl)
    | ((with_reducible apply lm_sP); exact rfl; exact rfl)
    | ((with_reducible apply lm_sPL); exact rfl; exact rfl)
    | ((with_reducible apply lm_sAA); exact rfl; first | exact rfl | exact lm_roO (by omega) | exact lm_roM (by omega))
    | ((with_reducible apply lm_sI); exact lm_fpL (by omega))
    | ((with_reducible apply lm_sR); exact lm_fpB (by omega))
    | ((with_reducible apply lm_sP); exact lm_fpL (by omega); exact rfl)
    | ((with_reducible apply lm_sS); exact lm_ocO (by omega); exact rfl)
    | ((with_reducible apply lm_sA); exact rfl; omega)
    | ((with_reducible apply lm_sJ); exact rfl; omega)
    | ((with_reducible apply lm_sB); (first | exact rfl | exact lm_arB (by omega) | exact lm_arM (by omega)); omega)
    | ((with_reducible apply lm_wA); exact rfl; omega)
    | ((with_reducible apply lm_wJ); exact rfl; omega)
    | ((with_reducible apply lm_wB); (first | exact rfl | exact lm_arB (by omega) | exact lm_arM (by omega)); omega)
    | ((with_reducible apply lm_sAl); (first | exact rfl | exact lm_arB (by omega) | exact lm_arM (by omega)); omega)
    | ((with_reducible apply lm_iW); decide))
      simp only [lm_rd, Nat.reduceEqDiff, and_false, if_false]
      exact rfl
    · funext i
      simp only [lm_rd, true_and]
      match i with
      | 0 => rfl
      | 1 => rfl
      | 2 => rfl
      | 3 => rfl
      | 4 => rfl
      | 5 => rfl
      | 6 => rfl
      | 7 => rfl
      | i + 8 => simp [lm_a8v, lm_r2]
    · exact (((((((hn.u (Or.inl rfl)).u (Or.inl rfl)).u (Or.inl rfl)).u (Or.inl rfl)).u (Or.inl rfl)).u (Or.inl rfl)).u (Or.inl rfl)).u (Or.inl rfl)
  | succ k ih =>
    intro t s ht
    obtain ⟨m', e, f1, f2⟩ := ih (t + 1) (lm_t2 (lm_kw (fun t => ys.getD t 0) t) (W t) s) (by omega)
    refine ⟨m', ?_, f1, f2⟩
    refine lm_e207_233 ?_
    unfold lm_q207_233
    rw [lm_K64]
    refine lm_geF (by omega) (by omega) (by omega) ?_
    refine lm_sStL hs (by omega) (by omega) ?_
    repeat (first
    | ((with_reducible apply lm_sI); exact rfl)
    | ((with_reducible apply lm_sR); exact rfl)
    | ((with_reducible apply lm_sS); exact rfl; exact rfl)
    | ((with_reducible apply lm_sL); exact rfl)
    | ((with_reducible apply lm_sP); exact rfl; exact rfl)
    | ((with_reducible apply lm_sPL); exact rfl; exact rfl)
    | ((with_reducible apply lm_sAA); exact rfl; first | exact rfl | exact lm_roO (by omega) | exact lm_roM (by omega))
    | ((with_reducible apply lm_sI); exact lm_fpL (by omega))
    | ((with_reducible apply lm_sR); exact lm_fpB (by omega))
    | ((with_reducible apply lm_sP); exact lm_fpL (by omega); exact rfl)
    | ((with_reducible apply lm_sS); exact lm_ocO (by omega); exact rfl)
    | ((with_reducible apply lm_sA); exact rfl; omega)
    | ((with_reducible apply lm_sJ); exact rfl; omega)
    | ((with_reducible apply lm_sB); (first | exact rfl | exact lm_arB (by omega) | exact lm_arM (by omega)); omega)
    | ((with_reducible apply lm_wA); exact rfl; omega)
    | ((with_reducible apply lm_wJ); exact rfl; omega)
    | ((with_reducible apply lm_wB); (first | exact rfl | exact lm_arB (by omega) | exact lm_arM (by omega)); omega)
    | ((with_reducible apply lm_sAl); (first | exact rfl | exact lm_arB (by omega) | exact lm_arM (by omega)); omega)
    | ((with_reducible apply lm_iW); decide))
    refine lm_cI (lm_u276 (by decide)) (lm_cI (lm_u276 (by decide)) (lm_cI (lm_u276 (by decide)) ?_))
    refine lm_cI (lm_u276 (by decide)) (lm_cI (lm_u276 (by decide)) (lm_cI (lm_u276 (by decide)) ?_))
    rw [hW t (by omega), show Int32.ofNat t + Int32.ofInt 1 = Int32.ofNat (t + 1) from lm_oa t 1, lm_ac2 s.2.2.2.2.2.2.2 ((lm_trn s.2.2.2.2.1 (Int32.ofInt 6) ^^^ lm_trn s.2.2.2.2.1 (Int32.ofInt 11)) ^^^ lm_trn s.2.2.2.2.1 (Int32.ofInt 25))]
    have eg : ∀ a b : Int32, a + b = b + a := Int32.add_comm
    rw [eg (((s.1 &&& s.2.1) ^^^ (s.1 &&& s.2.2.1)) ^^^ (s.2.1 &&& s.2.2.1))]
    exact e
theorem lm_l207s {b : Nat → Int32} (hs : sc[5]? = some (.inr (.inl ys))) (hy : ys.length = 80) : ∀ k j (m : lm_MI), j + k = 48 → (∀ t, t < 16 + j → m 16 t = lm_vs b j t) → lm_fv2 m0 m → (∀ q, q ≠ 16 → m q = m0 q) → lm_RV2 n x m0 (lm_cv2 (fun t => ys.getD t 0) (m0 14) b) (lm_rn sc (d + 1) lm_m207.2.2.2.2.1 (lm_reg lm_m207.2.2.2.2.2) (84, [(0, .ref 11), (1, .ref 16), (2, .int (Int32.ofNat (16 + j)))], []) (lm_w m n x)) := by
  intro k
  induction k with
  | zero =>
    intro j m hj h1 h2 h3
    have hj : j = 48 := hj
    subst hj
    have h := lm_l207r (sc := sc) (d := d) (n := n) (x := x) (m0 := m0) (m := m) (W := lm_vs b 48) hs hy h1 h2 64 0 (lm_o8v (m 14)) rfl
    rw [h3 14 (by decide)] at h
    obtain ⟨m', e, f1, f2⟩ := h
    refine ⟨m', ?_, f1, f2⟩
    refine lm_e207_84 ?_
    unfold lm_q207_84
    simp only [lm_K64, lm_K0, lm_K1, lm_K2, lm_K3, lm_K4, lm_K5, lm_K6, lm_K7]
    refine lm_geT (by decide) (by decide) (by decide) ?_
    repeat (first
    | ((with_reducible apply lm_sI); exact rfl)
    | ((with_reducible apply lm_sR); exact rfl)
    | ((with_reducible apply lm_sS); exact rfl; exact rfl)
    | ((with_reducible apply lm_sL); exact rfl)
    | ((with_reducible apply lm_sP); exact rfl; exact rfl)
    | ((with_reducible apply lm_sPL); exact rfl; exact rfl)
    | ((with_reducible apply lm_sAA); exact rfl; first | exact rfl | exact lm_roO (by omega) | exact lm_roM (by omega))
    | ((with_reducible apply lm_sI); exact lm_fpL (by omega))
    | ((with_reducible apply lm_sR); exact lm_fpB (by omega))
    | ((with_reducible apply lm_sP); exact lm_fpL (by omega); exact rfl)
    | ((with_reducible apply lm_sS); exact lm_ocO (by omega); exact rfl)
    | ((with_reducible apply lm_sA); exact rfl; omega)
    | ((with_reducible apply lm_sJ); exact rfl; omega)
    | ((with_reducible apply lm_sB); (first | exact rfl | exact lm_arB (by omega) | exact lm_arM (by omega)); omega)
    | ((with_reducible apply lm_wA); exact rfl; omega)
    | ((with_reducible apply lm_wJ); exact rfl; omega)
    | ((with_reducible apply lm_wB); (first | exact rfl | exact lm_arB (by omega) | exact lm_arM (by omega)); omega)
    | ((with_reducible apply lm_sAl); (first | exact rfl | exact lm_arB (by omega) | exact lm_arM (by omega)); omega)
    | ((with_reducible apply lm_iW); decide))
    rw [h3 14 (by decide)]
    exact e
  | succ k ih =>
    intro j m hj h1 h2 h3
    have e2 : m 16 (16 + j - 2) = lm_vs b j (16 + j - 2) := h1 _ (by omega)
    have e7 : m 16 (16 + j - 7) = lm_vs b j (16 + j - 7) := h1 _ (by omega)
    have e15 : m 16 (16 + j - 15) = lm_vs b j (16 + j - 15) := h1 _ (by omega)
    have e16 : m 16 (16 + j - 16) = lm_vs b j (16 + j - 16) := h1 _ (by omega)
    obtain ⟨m', e, f1, f2⟩ := ih (j + 1) (lm_u m 16 (16 + j) (lm_sv2 (lm_vs b j) (16 + j))) (by omega) (fun t ht => by
      show _ = if t = 16 + j then _ else _
      by_cases g : t = 16 + j
      · rw [g, lm_u_eq, if_pos rfl]
      · rw [lm_u_ne (fun g2 => g g2.2), if_neg g]
        exact h1 t (by omega)) (h2.u (Or.inr rfl)) (fun q hq => (lm_u_row hq).trans (h3 q hq))
    refine ⟨m', ?_, f1, f2⟩
    refine lm_e207_84 ?_
    unfold lm_q207_84
    rw [lm_K64]
    refine lm_geF (by omega) (by omega) (by omega) ?_
    rw [show Int32.ofNat (16 + j) - Int32.ofInt 2 = Int32.ofNat (16 + j - 2) by rw [lm_K2, lm_osu (by omega)], show Int32.ofNat (16 + j) - Int32.ofInt 15 = Int32.ofNat (16 + j - 15) by rw [lm_K15, lm_osu (by omega)], show Int32.ofNat (16 + j) - Int32.ofInt 7 = Int32.ofNat (16 + j - 7) by rw [lm_K7, lm_osu (by omega)], show Int32.ofNat (16 + j) - Int32.ofInt 16 = Int32.ofNat (16 + j - 16) by rw [lm_K16, lm_osu (by omega)]]
    repeat (first
    | ((with_reducible apply lm_sI); exact rfl)
    | ((with_reducible apply lm_sR); exact rfl)
    | ((with_reducible apply lm_sS); exact rfl; exact rfl)
    | ((with_reducible apply lm_sL); exact rfl)
    | ((with_reducible apply lm_sP); exact rfl; exact rfl)
    | ((with_reducible apply lm_sPL); exact rfl; exact rfl)
    | ((with_reducible apply lm_sAA); exact rfl; first | exact rfl | exact lm_roO (by omega) | exact lm_roM (by omega))
    | ((with_reducible apply lm_sI); exact lm_fpL (by omega))
    | ((with_reducible apply lm_sR); exact lm_fpB (by omega))
    | ((with_reducible apply lm_sP); exact lm_fpL (by omega); exact rfl)
    | ((with_reducible apply lm_sS); exact lm_ocO (by omega); exact rfl)
    | ((with_reducible apply lm_sA); exact rfl; omega)
    | ((with_reducible apply lm_sJ); exact rfl; omega)
    | ((with_reducible apply lm_sB); (first | exact rfl | exact lm_arB (by omega) | exact lm_arM (by omega)); omega)
    | ((with_reducible apply lm_wA); exact rfl; omega)
    | ((with_reducible apply lm_wJ); exact rfl; omega)
    | ((with_reducible apply lm_wB); (first | exact rfl | exact lm_arB (by omega) | exact lm_arM (by omega)); omega)
    | ((with_reducible apply lm_sAl); (first | exact rfl | exact lm_arB (by omega) | exact lm_arM (by omega)); omega)
    | ((with_reducible apply lm_iW); decide))
    refine lm_cI (lm_u276 (by decide)) (lm_cI (lm_u276 (by decide)) ?_)
    repeat (first
    | ((with_reducible apply lm_sI); exact rfl)
    | ((with_reducible apply lm_sR); exact rfl)
    | ((with_reducible apply lm_sS); exact rfl; exact rfl)
    | ((with_reducible apply lm_sL); exact rfl)
    | ((with_reducible apply lm_sP); exact rfl; exact rfl)
    | ((with_reducible apply lm_sPL); exact rfl; exact rfl)
    | ((with_reducible apply lm_sAA); exact rfl; first | exact rfl | exact lm_roO (by omega) | exact lm_roM (by omega))
    | ((with_reducible apply lm_sI); exact lm_fpL (by omega))
    | ((with_reducible apply lm_sR); exact lm_fpB (by omega))
    | ((with_reducible apply lm_sP); exact lm_fpL (by omega); exact rfl)
    | ((with_reducible apply lm_sS); exact lm_ocO (by omega); exact rfl)
    | ((with_reducible apply lm_sA); exact rfl; omega)
    | ((with_reducible apply lm_sJ); exact rfl; omega)
    | ((with_reducible apply lm_sB); (first | exact rfl | exact lm_arB (by omega) | exact lm_arM (by omega)); omega)
    | ((with_reducible apply lm_wA); exact rfl; omega)
    | ((with_reducible apply lm_wJ); exact rfl; omega)
    | ((with_reducible apply lm_wB); (first | exact rfl | exact lm_arB (by omega) | exact lm_arM (by omega)); omega)
    | ((with_reducible apply lm_sAl); (first | exact rfl | exact lm_arB (by omega) | exact lm_arM (by omega)); omega)
    | ((with_reducible apply lm_iW); decide))
    refine lm_cI (lm_u276 (by decide)) (lm_cI (lm_u276 (by decide)) ?_)
    repeat (first
    | ((with_reducible apply lm_sI); exact rfl)
    | ((with_reducible apply lm_sR); exact rfl)
    | ((with_reducible apply lm_sS); exact rfl; exact rfl)
    | ((with_reducible apply lm_sL); exact rfl)
    | ((with_reducible apply lm_sP); exact rfl; exact rfl)
    | ((with_reducible apply lm_sPL); exact rfl; exact rfl)
    | ((with_reducible apply lm_sAA); exact rfl; first | exact rfl | exact lm_roO (by omega) | exact lm_roM (by omega))
    | ((with_reducible apply lm_sI); exact lm_fpL (by omega))
    | ((with_reducible apply lm_sR); exact lm_fpB (by omega))
    | ((with_reducible apply lm_sP); exact lm_fpL (by omega); exact rfl)
    | ((with_reducible apply lm_sS); exact lm_ocO (by omega); exact rfl)
    | ((with_reducible apply lm_sA); exact rfl; omega)
    | ((with_reducible apply lm_sJ); exact rfl; omega)
    | ((with_reducible apply lm_sB); (first | exact rfl | exact lm_arB (by omega) | exact lm_arM (by omega)); omega)
    | ((with_reducible apply lm_wA); exact rfl; omega)
    | ((with_reducible apply lm_wJ); exact rfl; omega)
    | ((with_reducible apply lm_wB); (first | exact rfl | exact lm_arB (by omega) | exact lm_arM (by omega)); omega)
    | ((with_reducible apply lm_sAl); (first | exact rfl | exact lm_arB (by omega) | exact lm_arM (by omega)); omega)
    | ((with_reducible apply lm_iW); decide))
    rw [e2, e7, e15, e16, show Int32.ofNat (16 + j) + Int32.ofInt 1 = Int32.ofNat (16 + (j + 1)) from lm_oa (16 + j) 1]
    exact e
theorem lm_l207w (hs : sc[5]? = some (.inr (.inl ys))) (hy : ys.length = 80) : ∀ k t (m : lm_MI), t + k = 16 → (∀ i, i < t → m 16 i = lm_bv (m0 12) i) → (∀ q, q ≠ 16 → m q = m0 q) → lm_RV2 n x m0 (lm_cv2 (fun t => ys.getD t 0) (m0 14) (m0 12)) (lm_rn sc (d + 1) lm_m207.2.2.2.2.1 (lm_reg lm_m207.2.2.2.2.2) (9, [(0, .ref 11), (1, .ref 16), (2, .int (Int32.ofNat t)), (3, .int (Int32.ofNat (4 * t)))], []) (lm_w m n x)) := by
  intro k
  induction k with
  | zero =>
    intro t m ht h1 h2
    have ht : t = 16 := ht
    subst ht
    obtain ⟨m', e, f1, f2⟩ := lm_l207s (sc := sc) (d := d) (n := n) (x := x) (m0 := m0) (b := m0 12) hs hy 48 0 m rfl h1 (fun q _ hq => h2 q hq) h2
    refine ⟨m', ?_, f1, f2⟩
    refine lm_e207_9 ?_
    unfold lm_q207_9
    rw [lm_K16]
    exact lm_geT (by decide) (by decide) (by decide) e
  | succ k ih =>
    intro t m ht h1 h2
    obtain ⟨m', e, f1, f2⟩ := ih (t + 1) (lm_u m 16 t (lm_bv (m0 12) t)) (by omega) (fun i hi => by
      by_cases g : i = t
      · rw [g, lm_u_eq]
      · rw [lm_u_ne (fun g2 => g g2.2)]
        exact h1 i (by omega)) (fun q hq => (lm_u_row hq).trans (h2 q hq))
    refine ⟨m', ?_, f1, f2⟩
    refine lm_e207_9 ?_
    unfold lm_q207_9
    rw [lm_K16]
    refine lm_geF (by omega) (by omega) (by omega) ?_
    rw [show Int32.ofNat (4 * t) + Int32.ofInt 1 = Int32.ofNat (4 * t + 1) from lm_oa _ 1, show Int32.ofNat (4 * t) + Int32.ofInt 2 = Int32.ofNat (4 * t + 2) from lm_oa _ 2, show Int32.ofNat (4 * t) + Int32.ofInt 3 = Int32.ofNat (4 * t + 3) from lm_oa _ 3]
    repeat (first
    | ((with_reducible apply lm_sI); exact rfl)
    | ((with_reducible apply lm_sR); exact rfl)
    | ((with_reducible apply lm_sS); exact rfl; exact rfl)
    | ((with_reducible apply lm_sL); exact rfl)
    | ((with_reducible apply lm_sP); exact rfl; exact rfl)
    | ((with_reducible apply lm_sPL); exact rfl; exact rfl)
    | ((with_reducible apply lm_sAA); exact rfl; first | exact rfl | exact lm_roO (by omega) | exact lm_roM (by omega))
    | ((with_reducible apply lm_sI); exact lm_fpL (by omega))
    | ((with_reducible apply lm_sR); exact lm_fpB (by omega))
    | ((with_reducible apply lm_sP); exact lm_fpL (by omega); exact rfl)
    | ((with_reducible apply lm_sS); exact lm_ocO (by omega); exact rfl)
    | ((with_reducible apply lm_sA); exact rfl; omega)
    | ((with_reducible apply lm_sJ); exact rfl; omega)
    | ((with_reducible apply lm_sB); (first | exact rfl | exact lm_arB (by omega) | exact lm_arM (by omega)); omega)
    | ((with_reducible apply lm_wA); exact rfl; omega)
    | ((with_reducible apply lm_wJ); exact rfl; omega)
    | ((with_reducible apply lm_wB); (first | exact rfl | exact lm_arB (by omega) | exact lm_arM (by omega)); omega)
    | ((with_reducible apply lm_sAl); (first | exact rfl | exact lm_arB (by omega) | exact lm_arM (by omega)); omega)
    | ((with_reducible apply lm_iW); decide))
    rw [show Int32.ofNat t + Int32.ofInt 1 = Int32.ofNat (t + 1) from lm_oa t 1, show Int32.ofNat (4 * t) + Int32.ofInt 4 = Int32.ofNat (4 * (t + 1)) from lm_oa _ 4, ← lm_K16, lm_bwd, h2 12 (by decide)]
    exact e
theorem lm_u207 {m : lm_MI} (hs : sc[5]? = some (.inr (.inl ys))) (hy : ys.length = 80) : lm_RV2 n x m (lm_cv2 (fun t => ys.getD t 0) (m 14) (m 12)) (lm_cal sc (d + 2) 207 [.ref 11] (lm_w m n x)) := by
  obtain ⟨m', e, f1, f2⟩ := lm_l207w (sc := sc) (d := d) (n := n) (x := x) (m0 := m) hs hy 16 0 m rfl (fun i hi => by omega) (fun _ _ => rfl)
  refine ⟨m', ?_, f1, f2⟩
  refine lm_cal_of (Y := lm_m207) rfl rfl (lm_e207_0 ?_)
  unfold lm_q207_0
  repeat (first
    | ((with_reducible apply lm_sI); exact rfl)
    | ((with_reducible apply lm_sR); exact rfl)
    | ((with_reducible apply lm_sS); exact rfl; exact rfl)
    | ((with_reducible apply lm_sL); exact rfl)
    | ((with_reducible apply lm_sP); exact rfl; exact rfl)
    | ((with_reducible apply lm_sPL); exact rfl; exact rfl)
    | ((with_reducible apply lm_sAA); exact rfl; first | exact rfl | exact lm_roO (by omega) | exact lm_roM (by omega))
    | ((with_reducible apply lm_sI); exact lm_fpL (by omega))
    | ((with_reducible apply lm_sR); exact lm_fpB (by omega))
    | ((with_reducible apply lm_sP); exact lm_fpL (by omega); exact rfl)
    | ((with_reducible apply lm_sS); exact lm_ocO (by omega); exact rfl)
    | ((with_reducible apply lm_sA); exact rfl; omega)
    | ((with_reducible apply lm_sJ); exact rfl; omega)
    | ((with_reducible apply lm_sB); (first | exact rfl | exact lm_arB (by omega) | exact lm_arM (by omega)); omega)
    | ((with_reducible apply lm_wA); exact rfl; omega)
    | ((with_reducible apply lm_wJ); exact rfl; omega)
    | ((with_reducible apply lm_wB); (first | exact rfl | exact lm_arB (by omega) | exact lm_arM (by omega)); omega)
    | ((with_reducible apply lm_sAl); (first | exact rfl | exact lm_arB (by omega) | exact lm_arM (by omega)); omega)
    | ((with_reducible apply lm_iW); decide))
  exact e
end LMC2
