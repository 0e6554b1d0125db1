/-! ===== the class's SHA-512: a block ===== -/
theorem lm_sStL {β : Type} {sc : lm_H} {σ : lm_S} {j a : Nat} {ys : List Int64} {f : Int64 → lm_M β} {r : Option (Except Nat β × lm_S)} (hs : sc[j]? = some (.inr (.inl ys))) (ha : a < ys.length) (hl : ys.length ≤ 1000) (k : f (ys.getD a 0) σ = r) : lm_bind (lm_lald sc (lm_B + j) (Int32.ofNat a)) f σ = r := by
  rw [← k]
  exact lm_bd_ok (lm_lald_ok (h := σ.1) (s := σ.2) ((lm_cell_s j).trans hs) ha (by omega))
theorem lm_ac5 (h s c k w : Int64) : (((h + c) + k) + w) + s = (((h + s) + c) + k) + w := by
  rw [Int64.add_assoc h s c, Int64.add_comm s c, ← Int64.add_assoc h c s, Int64.add_assoc (h + c) s k, Int64.add_comm s k, ← Int64.add_assoc (h + c) k s, Int64.add_assoc ((h + c) + k) s w, Int64.add_comm s w, ← Int64.add_assoc]
section LMCS
variable {sc : lm_H} {d : Nat} {m : lm_MI} {x : lm_H × Nat × Nat} {n0 : lm_ML} {ys : List Int64}
theorem lm_u277 {v : Int64} {k : Int32} {σ : lm_S} (h : (Int32.toInt64 (-k)) &&& 63 = (Int32.toInt64 ((Int32.ofInt 64) - k)) &&& 63) : lm_cal sc (d + 1) 277 [.long v, .int k] σ = some (.ok (some (.long (lm_rgt v k))), σ) := by
  refine lm_cal_of (Y := lm_m277) rfl rfl (lm_e277_0 ?_)
  unfold lm_q277_0 lm_rgt
  rw [h]
  exact rfl
/-- only words and state are written -/
def lm_fwC (n0 n : lm_ML) : Prop := ∀ q, q ≠ 20 → q ≠ 22 → n q = n0 q
theorem lm_fwC.u {n : lm_ML} {q a : Nat} {v : Int64} (h : lm_fwC n0 n) (hq : q = 20 ∨ q = 22) : lm_fwC n0 (lm_u n q a v) := fun p h1 h2 => (lm_u_row (by omega)).trans (h p h1 h2)
def lm_RSC (m : lm_MI) (x : lm_H × Nat × Nat) (n0 : lm_ML) (S : Nat → Int64) (o : Option (Except Nat lm_R × lm_S)) : Prop := ∃ n', o = some (.ok none, lm_w m n' x) ∧ n' 20 = S ∧ lm_fwC n0 n'
theorem lm_l208r {n : lm_ML} {W : Nat → Int64} (hs : sc[5]? = some (.inr (.inl ys))) (hy : ys.length = 80) (hW : ∀ t, t < 80 → n 22 t = W t) (hn : lm_fwC n0 n) : ∀ k t (s : lm_T8), t + k = 80 → lm_RSC m x n0 (lm_add8 (n 20) (lm_r5 (fun t => ys.getD t 0) W k t s)) (lm_rn sc (d + 1) lm_m208.2.2.2.2.1 (lm_reg lm_m208.2.2.2.2.2) (220, [(0, .ref 17), (1, .ref 22), (2, .long s.1), (4, .long s.2.1), (6, .long s.2.2.1), (8, .long s.2.2.2.1), (10, .long s.2.2.2.2.1), (12, .long s.2.2.2.2.2.1), (14, .long s.2.2.2.2.2.2.1), (16, .long s.2.2.2.2.2.2.2), (18, .int (Int32.ofNat t))], []) (lm_w m n x)) := by
  intro k
  induction k with
  | zero =>
    intro t s ht
    have ht : t = 80 := ht
    subst ht
    refine ⟨lm_u (lm_u (lm_u (lm_u (lm_u (lm_u (lm_u (lm_u n 20 0 (n 20 0 + s.1)) 20 1 (n 20 1 + s.2.1)) 20 2 (n 20 2 + s.2.2.1)) 20 3 (n 20 3 + s.2.2.2.1)) 20 4 (n 20 4 + s.2.2.2.2.1)) 20 5 (n 20 5 + s.2.2.2.2.2.1)) 20 6 (n 20 6 + s.2.2.2.2.2.2.1)) 20 7 (n 20 7 + s.2.2.2.2.2.2.2), ?_, ?_, ?_⟩
    · refine lm_e208_220 ?_
      unfold lm_q208_220
      simp only [lm_K80, lm_K0, lm_K1, lm_K2, lm_K3, lm_K4, lm_K5, lm_K6, lm_K7]
      refine lm_geT (by decide) (by decide) (by decide) ?_
      repeat (first
    | ((with_reducible apply lm_sI); exact rfl)
    | ((with_reducible apply lm_sR); exact rfl)
    | ((with_reducible apply lm_sS); exact rfl; exact rfl)
    | ((with_reducible apply lm_sL); exact rfl)
    | ((with_reducible apply lm_sP); exact rfl; exact rfl)
    | ((with_reducible apply lm_sPL); exact rfl; exact rfl)
    | ((with_reducible apply lm_sAA); exact rfl; first | exact rfl | exact lm_roO (by omega) | exact lm_roM (by omega))
    | ((with_reducible apply lm_sI); exact lm_fpL (by omega))
    | ((with_reducible apply lm_sR); exact lm_fpB (by omega))
    | ((with_reducible apply lm_sP); exact lm_fpL (by omega); exact rfl)
    | ((with_reducible apply lm_sS); exact lm_ocO (by omega); exact rfl)
    | ((with_reducible apply lm_sA); exact rfl; omega)
    | ((with_reducible apply lm_sJ); exact rfl; omega)
    | ((with_reducible apply lm_sB); (first | exact rfl | exact lm_arB (by omega) | exact lm_arM (by omega)); omega)
    | ((with_reducible apply lm_wA); exact rfl; omega)
    | ((with_reducible apply lm_wJ); exact rfl; omega)
    | ((with_reducible apply lm_wB); (first | exact rfl | exact lm_arB (by omega) | exact lm_arM (by omega)); omega)
    | ((with_reducible apply lm_sAl); (first | exact rfl | exact lm_arB (by omega) | exact lm_arM (by omega)); omega)
    | ((with_reducible apply lm_iW); decide))
      simp only [lm_rd, Nat.reduceEqDiff, and_false, if_false]
      exact rfl
    · funext i
      simp only [lm_rd, true_and]
      match i with
      | 0 => rfl
      | 1 => rfl
      | 2 => rfl
      | 3 => rfl
      | 4 => rfl
      | 5 => rfl
      | 6 => rfl
      | 7 => rfl
      | i + 8 => simp [lm_add8, lm_r5]
    · exact (((((((hn.u (Or.inl rfl)).u (Or.inl rfl)).u (Or.inl rfl)).u (Or.inl rfl)).u (Or.inl rfl)).u (Or.inl rfl)).u (Or.inl rfl)).u (Or.inl rfl)
  | succ k ih =>
    intro t s ht
    obtain ⟨n', e, f1, f2⟩ := ih (t + 1) (lm_t5 (ys.getD t 0) (W t) s) (by omega)
    refine ⟨n', ?_, f1, f2⟩
    refine lm_e208_220 ?_
    unfold lm_q208_220
    rw [lm_K80]
    refine lm_geF (by omega) (by omega) (by omega) ?_
    refine lm_sStL hs (by omega) (by omega) ?_
    repeat (first
    | ((with_reducible apply lm_sI); exact rfl)
    | ((with_reducible apply lm_sR); exact rfl)
    | ((with_reducible apply lm_sS); exact rfl; exact rfl)
    | ((with_reducible apply lm_sL); exact rfl)
    | ((with_reducible apply lm_sP); exact rfl; exact rfl)
    | ((with_reducible apply lm_sPL); exact rfl; exact rfl)
    | ((with_reducible apply lm_sAA); exact rfl; first | exact rfl | exact lm_roO (by omega) | exact lm_roM (by omega))
    | ((with_reducible apply lm_sI); exact lm_fpL (by omega))
    | ((with_reducible apply lm_sR); exact lm_fpB (by omega))
    | ((with_reducible apply lm_sP); exact lm_fpL (by omega); exact rfl)
    | ((with_reducible apply lm_sS); exact lm_ocO (by omega); exact rfl)
    | ((with_reducible apply lm_sA); exact rfl; omega)
    | ((with_reducible apply lm_sJ); exact rfl; omega)
    | ((with_reducible apply lm_sB); (first | exact rfl | exact lm_arB (by omega) | exact lm_arM (by omega)); omega)
    | ((with_reducible apply lm_wA); exact rfl; omega)
    | ((with_reducible apply lm_wJ); exact rfl; omega)
    | ((with_reducible apply lm_wB); (first | exact rfl | exact lm_arB (by omega) | exact lm_arM (by omega)); omega)
    | ((with_reducible apply lm_sAl); (first | exact rfl | exact lm_arB (by omega) | exact lm_arM (by omega)); omega)
    | ((with_reducible apply lm_iW); decide))
    refine lm_cLg (lm_u277 (by decide)) (lm_cLg (lm_u277 (by decide)) (lm_cLg (lm_u277 (by decide)) ?_))
    refine lm_cLg (lm_u277 (by decide)) (lm_cLg (lm_u277 (by decide)) (lm_cLg (lm_u277 (by decide)) ?_))
    rw [hW t (by omega), show Int32.ofNat t + Int32.ofInt 1 = Int32.ofNat (t + 1) from lm_oa t 1, lm_ac5 s.2.2.2.2.2.2.2 ((lm_rgt s.2.2.2.2.1 (Int32.ofInt 14) ^^^ lm_rgt s.2.2.2.2.1 (Int32.ofInt 18)) ^^^ lm_rgt s.2.2.2.2.1 (Int32.ofInt 41))]
    have eg : ∀ a b : Int64, a + b = b + a := Int64.add_comm
    rw [eg (((s.1 &&& s.2.1) ^^^ (s.1 &&& s.2.2.1)) ^^^ (s.2.1 &&& s.2.2.1))]
    exact e
theorem lm_l208s {b : Nat → Int32} (hs : sc[5]? = some (.inr (.inl ys))) (hy : ys.length = 80) : ∀ k j (n : lm_ML), j + k = 64 → (∀ t, t < 16 + j → n 22 t = lm_wsc b j t) → lm_fwC n0 n → (∀ q, q ≠ 22 → n q = n0 q) → lm_RSC m x n0 (lm_cc5 (fun t => ys.getD t 0) (n0 20) b) (lm_rn sc (d + 1) lm_m208.2.2.2.2.1 (lm_reg lm_m208.2.2.2.2.2) (70, [(0, .ref 17), (1, .ref 22), (2, .int (Int32.ofNat (16 + j)))], []) (lm_w m n x)) := by
  intro k
  induction k with
  | zero =>
    intro j n hj h1 h2 h3
    have hj : j = 64 := hj
    subst hj
    have h := lm_l208r (sc := sc) (d := d) (m := m) (x := x) (n0 := n0) (n := n) (W := lm_wsc b 64) hs hy h1 h2 80 0 (lm_of8 (n 20)) rfl
    rw [h3 20 (by decide)] at h
    obtain ⟨n', e, f1, f2⟩ := h
    refine ⟨n', ?_, f1, f2⟩
    refine lm_e208_70 ?_
    unfold lm_q208_70
    simp only [lm_K80, lm_K0, lm_K1, lm_K2, lm_K3, lm_K4, lm_K5, lm_K6, lm_K7]
    refine lm_geT (by decide) (by decide) (by decide) ?_
    repeat (first
    | ((with_reducible apply lm_sI); exact rfl)
    | ((with_reducible apply lm_sR); exact rfl)
    | ((with_reducible apply lm_sS); exact rfl; exact rfl)
    | ((with_reducible apply lm_sL); exact rfl)
    | ((with_reducible apply lm_sP); exact rfl; exact rfl)
    | ((with_reducible apply lm_sPL); exact rfl; exact rfl)
    | ((with_reducible apply lm_sAA); exact rfl; first | exact rfl | exact lm_roO (by omega) | exact lm_roM (by omega))
    | ((with_reducible apply lm_sI); exact lm_fpL (by omega))
    | ((with_reducible apply lm_sR); exact lm_fpB (by omega))
    | ((with_reducible apply lm_sP); exact lm_fpL (by omega); exact rfl)
    | ((with_reducible apply lm_sS); exact lm_ocO (by omega); exact rfl)
    | ((with_reducible apply lm_sA); exact rfl; omega)
    | ((with_reducible apply lm_sJ); exact rfl; omega)
    | ((with_reducible apply lm_sB); (first | exact rfl | exact lm_arB (by omega) | exact lm_arM (by omega)); omega)
    | ((with_reducible apply lm_wA); exact rfl; omega)
    | ((with_reducible apply lm_wJ); exact rfl; omega)
    | ((with_reducible apply lm_wB); (first | exact rfl | exact lm_arB (by omega) | exact lm_arM (by omega)); omega)
    | ((with_reducible apply lm_sAl); (first | exact rfl | exact lm_arB (by omega) | exact lm_arM (by omega)); omega)
    | ((with_reducible apply lm_iW); decide))
    rw [h3 20 (by decide)]
    exact e
  | succ k ih =>
    intro j n hj h1 h2 h3
    have e2 : n 22 (16 + j - 2) = lm_wsc b j (16 + j - 2) := h1 _ (by omega)
    have e7 : n 22 (16 + j - 7) = lm_wsc b j (16 + j - 7) := h1 _ (by omega)
    have e15 : n 22 (16 + j - 15) = lm_wsc b j (16 + j - 15) := h1 _ (by omega)
    have e16 : n 22 (16 + j - 16) = lm_wsc b j (16 + j - 16) := h1 _ (by omega)
    obtain ⟨n', e, f1, f2⟩ := ih (j + 1) (lm_u n 22 (16 + j) (lm_sg (lm_wsc b j) (16 + j))) (by omega) (fun t ht => by
      show _ = if t = 16 + j then _ else _
      by_cases g : t = 16 + j
      · rw [g, lm_u_eq, if_pos rfl]
      · rw [lm_u_ne (fun g2 => g g2.2), if_neg g]
        exact h1 t (by omega)) (h2.u (Or.inr rfl)) (fun q hq => (lm_u_row hq).trans (h3 q hq))
    refine ⟨n', ?_, f1, f2⟩
    refine lm_e208_70 ?_
    unfold lm_q208_70
    rw [lm_K80]
    refine lm_geF (by omega) (by omega) (by omega) ?_
    rw [show Int32.ofNat (16 + j) - Int32.ofInt 2 = Int32.ofNat (16 + j - 2) by rw [lm_K2, lm_osu (by omega)], show Int32.ofNat (16 + j) - Int32.ofInt 15 = Int32.ofNat (16 + j - 15) by rw [lm_K15, lm_osu (by omega)], show Int32.ofNat (16 + j) - Int32.ofInt 7 = Int32.ofNat (16 + j - 7) by rw [lm_K7, lm_osu (by omega)], show Int32.ofNat (16 + j) - Int32.ofInt 16 = Int32.ofNat (16 + j - 16) by rw [lm_K16, lm_osu (by omega)]]
    repeat (first
    | ((with_reducible apply lm_sI); exact rfl)
    | ((with_reducible apply lm_sR); exact rfl)
    | ((with_reducible apply lm_sS); exact rfl; exact rfl)
    | ((with_reducible apply lm_sL); exact rfl)
    | ((with_reducible apply lm_sP); exact rfl; exact rfl)
    | ((with_reducible apply lm_sPL); exact rfl; exact rfl)
    | ((with_reducible apply lm_sAA); exact rfl; first | exact rfl | exact lm_roO (by omega) | exact lm_roM (by omega))
    | ((with_reducible apply lm_sI); exact lm_fpL (by omega))
    | ((with_reducible apply lm_sR); exact lm_fpB (by omega))
    | ((with_reducible apply lm_sP); exact lm_fpL (by omega); exact rfl)
    | ((with_reducible apply lm_sS); exact lm_ocO (by omega); exact rfl)
    | ((with_reducible apply lm_sA); exact rfl; omega)
    | ((with_reducible apply lm_sJ); exact rfl; omega)
    | ((with_reducible apply lm_sB); (first | exact rfl | exact lm_arB (by omega) | exact lm_arM (by omega)); omega)
    | ((with_reducible apply lm_wA); exact rfl; omega)
    | ((with_reducible apply lm_wJ); exact rfl; omega)
    | ((with_reducible apply lm_wB); (first | exact rfl | exact lm_arB (by omega) | exact lm_arM (by omega)); omega)
    | ((with_reducible apply lm_sAl); (first | exact rfl | exact lm_arB (by omega) | exact lm_arM (by omega)); omega)
    | ((with_reducible apply lm_iW); decide))
    refine lm_cLg (lm_u277 (by decide)) (lm_cLg (lm_u277 (by decide)) ?_)
    repeat (first
    | ((with_reducible apply lm_sI); exact rfl)
    | ((with_reducible apply lm_sR); exact rfl)
    | ((with_reducible apply lm_sS); exact rfl; exact rfl)
    | ((with_reducible apply lm_sL); exact rfl)
    | ((with_reducible apply lm_sP); exact rfl; exact rfl)
    | ((with_reducible apply lm_sPL); exact rfl; exact rfl)
    | ((with_reducible apply lm_sAA); exact rfl; first | exact rfl | exact lm_roO (by omega) | exact lm_roM (by omega))
    | ((with_reducible apply lm_sI); exact lm_fpL (by omega))
    | ((with_reducible apply lm_sR); exact lm_fpB (by omega))
    | ((with_reducible apply lm_sP); exact lm_fpL (by omega); exact rfl)
    | ((with_reducible apply lm_sS); exact lm_ocO (by omega); exact rfl)
    | ((with_reducible apply lm_sA); exact rfl; omega)
    | ((with_reducible apply lm_sJ); exact rfl; omega)
    | ((with_reducible apply lm_sB); (first | exact rfl | exact lm_arB (by omega) | exact lm_arM (by omega)); omega)
    | ((with_reducible apply lm_wA); exact rfl; omega)
    | ((with_reducible apply lm_wJ); exact rfl; omega)
    | ((with_reducible apply lm_wB); (first | exact rfl | exact lm_arB (by omega) | exact lm_arM (by omega)); omega)
    | ((with_reducible apply lm_sAl); (first | exact rfl | exact lm_arB (by omega) | exact lm_arM (by omega)); omega)
    | ((with_reducible apply lm_iW); decide))
    refine lm_cLg (lm_u277 (by decide)) (lm_cLg (lm_u277 (by decide)) ?_)
    repeat (first
    | ((with_reducible apply lm_sI); exact rfl)
    | ((with_reducible apply lm_sR); exact rfl)
    | ((with_reducible apply lm_sS); exact rfl; exact rfl)
    | ((with_reducible apply lm_sL); exact rfl)
    | ((with_reducible apply lm_sP); exact rfl; exact rfl)
    | ((with_reducible apply lm_sPL); exact rfl; exact rfl)
    | ((with_reducible apply lm_sAA); exact rfl; first | exact rfl | exact lm_roO (by omega) | exact lm_roM (by omega))
    | ((with_reducible apply lm_sI); exact lm_fpL (by omega))
    | ((with_reducible apply lm_sR); exact lm_fpB (by omega))
    | ((with_reducible apply lm_sP); exact lm_fpL (by omega); exact rfl)
    | ((with_reducible apply lm_sS); exact lm_ocO (by omega); exact rfl)
    | ((with_reducible apply lm_sA); exact rfl; omega)
    | ((with_reducible apply lm_sJ); exact rfl; omega)
    | ((with_reducible apply lm_sB); (first | exact rfl | exact lm_arB (by omega) | exact lm_arM (by omega)); omega)
    | ((with_reducible apply lm_wA); exact rfl; omega)
    | ((with_reducible apply lm_wJ); exact rfl; omega)
    | ((with_reducible apply lm_wB); (first | exact rfl | exact lm_arB (by omega) | exact lm_arM (by omega)); omega)
    | ((with_reducible apply lm_sAl); (first | exact rfl | exact lm_arB (by omega) | exact lm_arM (by omega)); omega)
    | ((with_reducible apply lm_iW); decide))
    rw [e2, e7, e15, e16, show Int32.ofNat (16 + j) + Int32.ofInt 1 = Int32.ofNat (16 + (j + 1)) from lm_oa (16 + j) 1]
    exact e
theorem lm_l208b {n : lm_ML} {i : Nat} (hi : i < 16) {r : Except Nat lm_R × lm_S} (K : lm_rn sc d lm_m208.2.2.2.2.1 (lm_reg lm_m208.2.2.2.2.2) (7, [(0, .ref 17), (1, .ref 22), (2, .int (Int32.ofNat (i + 1)))], []) (lm_w m (lm_u n 22 i (lm_bw (m 18) i)) x) = some r) : ∀ k j a, j + k = 8 → lm_wv (fun i => Int32.toInt64 (lm_b8 (m 18 i)) &&& Int64.ofNat 255) k (8 * i + j) a = lm_bw (m 18) i → lm_rn sc d lm_m208.2.2.2.2.1 (lm_reg lm_m208.2.2.2.2.2) (21, [(0, .ref 17), (1, .ref 22), (2, .int (Int32.ofNat i)), (3, .long a), (5, .int (Int32.ofNat (8 * i + j)))], []) (lm_w m n x) = some r := by
  intro k
  induction k with
  | zero =>
    intro j a hj h
    have hj : j = 8 := hj
    subst hj
    have h : a = lm_bw (m 18) i := h
    subst h
    refine lm_e208_21 ?_
    unfold lm_q208_21
    simp only [lm_K8, lm_K1, lm_om, lm_oo]
    refine lm_geT (by omega) (by omega) (by omega) ?_
    repeat (first
    | ((with_reducible apply lm_sI); exact rfl)
    | ((with_reducible apply lm_sR); exact rfl)
    | ((with_reducible apply lm_sS); exact rfl; exact rfl)
    | ((with_reducible apply lm_sL); exact rfl)
    | ((with_reducible apply lm_sP); exact rfl; exact rfl)
    | ((with_reducible apply lm_sPL); exact rfl; exact rfl)
    | ((with_reducible apply lm_sAA); exact rfl; first | exact rfl | exact lm_roO (by omega) | exact lm_roM (by omega))
    | ((with_reducible apply lm_sI); exact lm_fpL (by omega))
    | ((with_reducible apply lm_sR); exact lm_fpB (by omega))
    | ((with_reducible apply lm_sP); exact lm_fpL (by omega); exact rfl)
    | ((with_reducible apply lm_sS); exact lm_ocO (by omega); exact rfl)
    | ((with_reducible apply lm_sA); exact rfl; omega)
    | ((with_reducible apply lm_sJ); exact rfl; omega)
    | ((with_reducible apply lm_sB); (first | exact rfl | exact lm_arB (by omega) | exact lm_arM (by omega)); omega)
    | ((with_reducible apply lm_wA); exact rfl; omega)
    | ((with_reducible apply lm_wJ); exact rfl; omega)
    | ((with_reducible apply lm_wB); (first | exact rfl | exact lm_arB (by omega) | exact lm_arM (by omega)); omega)
    | ((with_reducible apply lm_sAl); (first | exact rfl | exact lm_arB (by omega) | exact lm_arM (by omega)); omega)
    | ((with_reducible apply lm_iW); decide))
    exact K
  | succ k ih =>
    intro j a hj h
    refine lm_e208_21 ?_
    unfold lm_q208_21
    rw [show Int32.ofInt 8 * Int32.ofNat i + Int32.ofInt 8 = Int32.ofNat (8 * i + 8) by rw [lm_K8, lm_om, lm_oo]]
    refine lm_geF (by omega) (by omega) (by omega) ?_
    repeat (first
    | ((with_reducible apply lm_sI); exact rfl)
    | ((with_reducible apply lm_sR); exact rfl)
    | ((with_reducible apply lm_sS); exact rfl; exact rfl)
    | ((with_reducible apply lm_sL); exact rfl)
    | ((with_reducible apply lm_sP); exact rfl; exact rfl)
    | ((with_reducible apply lm_sPL); exact rfl; exact rfl)
    | ((with_reducible apply lm_sAA); exact rfl; first | exact rfl | exact lm_roO (by omega) | exact lm_roM (by omega))
    | ((with_reducible apply lm_sI); exact lm_fpL (by omega))
    | ((with_reducible apply lm_sR); exact lm_fpB (by omega))
    | ((with_reducible apply lm_sP); exact lm_fpL (by omega); exact rfl)
    | ((with_reducible apply lm_sS); exact lm_ocO (by omega); exact rfl)
    | ((with_reducible apply lm_sA); exact rfl; omega)
    | ((with_reducible apply lm_sJ); exact rfl; omega)
    | ((with_reducible apply lm_sB); (first | exact rfl | exact lm_arB (by omega) | exact lm_arM (by omega)); omega)
    | ((with_reducible apply lm_wA); exact rfl; omega)
    | ((with_reducible apply lm_wJ); exact rfl; omega)
    | ((with_reducible apply lm_wB); (first | exact rfl | exact lm_arB (by omega) | exact lm_arM (by omega)); omega)
    | ((with_reducible apply lm_sAl); (first | exact rfl | exact lm_arB (by omega) | exact lm_arM (by omega)); omega)
    | ((with_reducible apply lm_iW); decide))
    rw [show Int32.ofNat (8 * i + j) + Int32.ofInt 1 = Int32.ofNat (8 * i + (j + 1)) from lm_oa (8 * i + j) 1, lm_and255]
    exact ih (j + 1) _ (by omega) h
theorem lm_l208w (hs : sc[5]? = some (.inr (.inl ys))) (hy : ys.length = 80) : ∀ k t (n : lm_ML), t + k = 16 → (∀ i, i < t → n 22 i = lm_bw (m 18) i) → (∀ q, q ≠ 22 → n q = n0 q) → lm_RSC m x n0 (lm_cc5 (fun t => ys.getD t 0) (n0 20) (m 18)) (lm_rn sc (d + 1) lm_m208.2.2.2.2.1 (lm_reg lm_m208.2.2.2.2.2) (7, [(0, .ref 17), (1, .ref 22), (2, .int (Int32.ofNat t))], []) (lm_w m n x)) := by
  intro k
  induction k with
  | zero =>
    intro t n ht h1 h2
    have ht : t = 16 := ht
    subst ht
    obtain ⟨n', e, f1, f2⟩ := lm_l208s (sc := sc) (d := d) (m := m) (x := x) (n0 := n0) (b := m 18) hs hy 64 0 n rfl h1 (fun q _ hq => h2 q hq) h2
    refine ⟨n', ?_, f1, f2⟩
    refine lm_e208_7 ?_
    unfold lm_q208_7
    rw [lm_K16]
    exact lm_geT (by decide) (by decide) (by decide) e
  | succ k ih =>
    intro t n ht h1 h2
    obtain ⟨n', e, f1, f2⟩ := ih (t + 1) (lm_u n 22 t (lm_bw (m 18) t)) (by omega) (fun i hi => by
      by_cases g : i = t
      · rw [g, lm_u_eq]
      · rw [lm_u_ne (fun g2 => g g2.2)]
        exact h1 i (by omega)) (fun q hq => (lm_u_row hq).trans (h2 q hq))
    refine ⟨n', ?_, f1, f2⟩
    refine lm_e208_7 ?_
    unfold lm_q208_7
    rw [lm_K16, lm_K8, lm_om]
    refine lm_geF (by omega) (by omega) (by omega) ?_
    exact lm_l208b (by omega) e 8 0 0 rfl rfl
theorem lm_u208 {n : lm_ML} (hs : sc[5]? = some (.inr (.inl ys))) (hy : ys.length = 80) : lm_RSC m x n (lm_cc5 (fun t => ys.getD t 0) (n 20) (m 18)) (lm_cal sc (d + 2) 208 [.ref 17] (lm_w m n x)) := by
  obtain ⟨n', e, f1, f2⟩ := lm_l208w (sc := sc) (d := d) (m := m) (x := x) (n0 := n) hs hy 16 0 n rfl (fun i hi => by omega) (fun _ _ => rfl)
  refine ⟨n', ?_, f1, f2⟩
  refine lm_cal_of (Y := lm_m208) rfl rfl (lm_e208_0 ?_)
  unfold lm_q208_0
  repeat (first
    | ((with_reducible apply lm_sI); exact rfl)
    | ((with_reducible apply lm_sR); exact rfl)
    | ((with_reducible apply lm_sS); exact rfl; exact rfl)
    | ((with_reducible apply lm_sL); exact rfl)
    | ((with_reducible apply lm_sP); exact rfl; exact rfl)
    | ((with_reducible apply lm_sPL); exact rfl; exact rfl)
    | ((with_reducible apply lm_sAA); exact rfl; first | exact rfl | exact lm_roO (by omega) | exact lm_roM (by omega))
    | ((with_reducible apply lm_sI); exact lm_fpL (by omega))
    | ((with_reducible apply lm_sR); exact lm_fpB (by omega))
    | ((with_reducible apply lm_sP); exact lm_fpL (by omega); exact rfl)
    | ((with_reducible apply lm_sS); exact lm_ocO (by omega); exact rfl)
    | ((with_reducible apply lm_sA); exact rfl; omega)
    | ((with_reducible apply lm_sJ); exact rfl; omega)
    | ((with_reducible apply lm_sB); (first | exact rfl | exact lm_arB (by omega) | exact lm_arM (by omega)); omega)
    | ((with_reducible apply lm_wA); exact rfl; omega)
    | ((with_reducible apply lm_wJ); exact rfl; omega)
    | ((with_reducible apply lm_wB); (first | exact rfl | exact lm_arB (by omega) | exact lm_arM (by omega)); omega)
    | ((with_reducible apply lm_sAl); (first | exact rfl | exact lm_arB (by omega) | exact lm_arM (by omega)); omega)
    | ((with_reducible apply lm_iW); decide))
  rw [lm_K0]
  exact e
end LMCS
