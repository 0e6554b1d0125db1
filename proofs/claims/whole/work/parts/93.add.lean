/-! ===== the class's hashes: add ===== -/
/-- the tables of class and reference agree -/
def lm_Tok (sc : lm_H) (T : lm_TB) : Prop := ∃ zs ys : List Int64, sc[6]? = some (.inr (.inl zs)) ∧ zs.length = 24 ∧ sc[5]? = some (.inr (.inl ys)) ∧ ys.length = 80 ∧ (∀ i, i < 25 → T.1 i = lm_trt i) ∧ (∀ t, t < 24 → T.2.1 t = zs.getD t 0) ∧ (∀ t, t < 80 → T.2.2 t = ys.getD t 0)
/-- what the sponge holds: all but the total -/
def lm_C5 (m : lm_MI) (n : lm_ML) (k r : Nat) (h : lm_HV) : Prop := 6 < k ∧ r % 8 = 0 ∧ 64 ≤ r ∧ r ≤ 168 ∧ m 5 1 = Int32.ofNat r ∧ m 5 2 = Int32.ofNat h.1 ∧ (∀ i, i < 25 → h.2.2.1 i = lm_fls (fun i => lm_b8 (m 6 i)) h.1 0 (n 8) i)
def lm_C11 (m : lm_MI) (n : lm_ML) (k r : Nat) (h : lm_HV) : Prop := ¬ 6 < k ∧ r = 64 ∧ m 11 1 = Int32.ofNat r ∧ m 11 2 = Int32.ofNat h.1 ∧ (∀ i, i < 8 → m 14 i = Int64.toInt32 (h.2.2.1 i)) ∧ (∀ i, i < h.1 → lm_b8 (m 12 i) = lm_b8 (h.2.2.2 i))
def lm_C17 (m : lm_MI) (n : lm_ML) (k r : Nat) (h : lm_HV) : Prop := ¬ 6 < k ∧ r = 128 ∧ m 17 1 = Int32.ofNat r ∧ m 17 2 = Int32.ofNat h.1 ∧ (∀ i, i < 8 → n 20 i = h.2.2.1 i) ∧ (∀ i, i < h.1 → lm_b8 (m 18 i) = lm_b8 (h.2.2.2 i))
/-- only the hash's own places are written; its kept state is not -/
def lm_fa (o ks : Nat) (m : lm_MI) (n : lm_ML) (m' : lm_MI) (n' : lm_ML) : Prop := (∀ q, q < o ∨ o + 5 < q → m' q = m q) ∧ (∀ q, q < o ∨ o + 5 < q → n' q = n q) ∧ (∀ j, j ≠ 2 → m' o j = m o j) ∧ (∀ j, j ≠ 3 → n' o j = n o j) ∧ m' (o + 2) = m (o + 2) ∧ m' ks = m ks ∧ n' ks = n ks
theorem lm_fa.rf {o ks : Nat} {m : lm_MI} {n : lm_ML} : lm_fa o ks m n m n := ⟨fun _ _ => rfl, fun _ _ => rfl, fun _ _ => rfl, fun _ _ => rfl, rfl, rfl, rfl⟩
theorem lm_fa.tr {o ks : Nat} {m m1 m2 : lm_MI} {n n1 n2 : lm_ML} (h : lm_fa o ks m n m1 n1) (g : lm_fa o ks m1 n1 m2 n2) : lm_fa o ks m n m2 n2 := ⟨fun q a => (g.1 q a).trans (h.1 q a), fun q a => (g.2.1 q a).trans (h.2.1 q a), fun q a => (g.2.2.1 q a).trans (h.2.2.1 q a), fun q a => (g.2.2.2.1 q a).trans (h.2.2.2.1 q a), g.2.2.2.2.1.trans h.2.2.2.2.1, g.2.2.2.2.2.1.trans h.2.2.2.2.2.1, g.2.2.2.2.2.2.trans h.2.2.2.2.2.2⟩
section LMAD
variable {sc : lm_H} {d k r : Nat} {m : lm_MI} {n : lm_ML} {x : lm_H × Nat × Nat} {h : lm_HV} {T : lm_TB}
theorem lm_u205 {a b : Nat} (ha : a ≤ 1000000) (hb : b ≤ 1000000) {σ : lm_S} : lm_cal sc (d + 1) 205 [.int (Int32.ofNat a), .int (Int32.ofNat b)] σ = some (.ok (some (.int (Int32.ofNat (min a b)))), σ) := by
  refine lm_cal_of (Y := lm_m205) rfl rfl (lm_e205_0 ?_)
  unfold lm_q205_0
  by_cases c : b < a
  · rw [Nat.min_eq_right (by omega)]
    exact lm_gtT (by omega) (by omega) c rfl
  · rw [Nat.min_eq_left (by omega)]
    exact lm_gtF (by omega) (by omega) c rfl
/-- the memory behind c bytes copied into the block -/
def lm_mp (m : lm_MI) (o f q a c : Nat) : lm_MI := lm_u (lm_cp m (o + 1) f q a c) o 2 (Int32.ofNat (f + c))
theorem lm_mp_in {o f q a c i : Nat} (h1 : f ≤ i) (h2 : i < f + c) : lm_mp m o f q a c (o + 1) i = m q (a + (i - f)) := by
  unfold lm_mp
  rw [lm_u_row (by omega), lm_rc, if_pos ⟨rfl, h1, h2⟩, Nat.add_comm]
theorem lm_mp_out {o f q a c i : Nat} (h1 : ¬ (f ≤ i ∧ i < f + c)) : lm_mp m o f q a c (o + 1) i = m (o + 1) i := by
  unfold lm_mp
  rw [lm_u_row (by omega), lm_rc, if_neg (fun g => h1 g.2)]
theorem lm_mp_row {o f q a c p : Nat} (h1 : p ≠ o) (h2 : p ≠ o + 1) : lm_mp m o f q a c p = m p := by
  unfold lm_mp
  rw [lm_u_row h1, lm_cp_row h2]
theorem lm_mp_o {o f q a c j : Nat} (h1 : j ≠ 2) : lm_mp m o f q a c o j = m o j := by
  unfold lm_mp
  rw [lm_u_ne (fun g => h1 g.2), lm_cp_row (by omega)]
theorem lm_mp_2 {o f q a c : Nat} : lm_mp m o f q a c o 2 = Int32.ofNat (f + c) := lm_u_eq
/-- bytes into the block: the sponge -/
theorem lm_put5 {q a c : Nat} (hC : lm_C5 m n k r h) : lm_C5 (lm_mp m 5 h.1 q a c) n k r (lm_hw k (fun i => lm_b8 (m q i)) c a h) := by
  obtain ⟨c1, c2, c3, c4, c5, c6, c7⟩ := hC
  refine ⟨c1, c2, c3, c4, (lm_mp_o (by decide)).trans c5, by rw [lm_mp_2, lm_hw_f], ?_⟩
  intro i hi
  rw [lm_hw_S c1, lm_hw_f, lm_fls_add, Nat.zero_add, lm_fls_ext (b := fun i => lm_b8 (lm_mp m 5 h.1 q a c 6 i)) (b' := fun i => lm_b8 (m 6 i)) h.1 0 _ (fun j _ hj => congrArg lm_b8 (lm_mp_out (o := 5) (by omega))), lm_fls_ext (b := fun i => lm_b8 (lm_mp m 5 h.1 q a c 6 i)) (b' := fun i => lm_b8 (m q (a + (i - h.1)))) c h.1 _ (fun j hj1 hj2 => congrArg lm_b8 (lm_mp_in (o := 5) hj1 hj2))]
  exact lm_fls_lo c h.1 _ _ c7 i hi
theorem lm_put11 {q a c : Nat} (hC : lm_C11 m n k r h) : lm_C11 (lm_mp m 11 h.1 q a c) n k r (lm_hw k (fun i => lm_b8 (m q i)) c a h) := by
  obtain ⟨c1, c2, c5, c6, c7, c8⟩ := hC
  refine ⟨c1, c2, (lm_mp_o (by decide)).trans c5, by rw [lm_mp_2, lm_hw_f], fun i hi => ?_, fun i hi => ?_⟩
  · rw [lm_hw_S6 c1, lm_mp_row (by decide) (by decide)]
    exact c7 i hi
  · rw [lm_hw_f] at hi
    rw [lm_hw_B c1]
    by_cases e : h.1 ≤ i
    · rw [if_pos ⟨e, hi⟩, lm_b8b, lm_b8b]
      exact congrArg lm_b8 (lm_mp_in (o := 11) e hi)
    · rw [if_neg (fun g => e g.1)]
      exact (congrArg lm_b8 (lm_mp_out (o := 11) (fun g => e g.1))).trans (c8 i (by omega))
theorem lm_put17 {q a c : Nat} (hC : lm_C17 m n k r h) : lm_C17 (lm_mp m 17 h.1 q a c) n k r (lm_hw k (fun i => lm_b8 (m q i)) c a h) := by
  obtain ⟨c1, c2, c5, c6, c7, c8⟩ := hC
  refine ⟨c1, c2, (lm_mp_o (by decide)).trans c5, by rw [lm_mp_2, lm_hw_f], fun i hi => ?_, fun i hi => ?_⟩
  · rw [lm_hw_S6 c1]
    exact c7 i hi
  · rw [lm_hw_f] at hi
    rw [lm_hw_B c1]
    by_cases e : h.1 ≤ i
    · rw [if_pos ⟨e, hi⟩, lm_b8b, lm_b8b]
      exact congrArg lm_b8 (lm_mp_in (o := 17) e hi)
    · rw [if_neg (fun g => e g.1)]
      exact (congrArg lm_b8 (lm_mp_out (o := 17) (fun g => e g.1))).trans (c8 i (by omega))
/-- a full block is taken: the sponge -/
theorem lm_tak5 (hT : lm_Tok sc T) (hC : lm_C5 m n k r h) (hf : h.1 = r) : ∃ m' n', lm_cal sc (d + 3) 206 [.ref 5] (lm_w m n x) = some (.ok none, lm_w m' n' x) ∧ lm_C5 (lm_u m' 5 2 (Int32.ofInt 0)) n' k r (0, h.2.1, lm_cpr T k r h.2.2.1 h.2.2.2, h.2.2.2) ∧ lm_fa 5 10 m n m' n' ∧ n' 5 3 = n 5 3 := by
  obtain ⟨c1, c2, c3, c4, c5, c6, c7⟩ := hC
  obtain ⟨zs, ys, t1, t2, t3, t4, t5, t6, t7⟩ := hT
  have er : r = 8 * (r / 8) := by omega
  obtain ⟨n', e, f1, f2⟩ := lm_u206 (sc := sc) (d := d) (m := m) (x := x) (n := n) (w := r / 8) t1 t2 (c5.trans (congrArg Int32.ofNat er)) (by omega)
  refine ⟨m, n', e, ⟨c1, c2, c3, c4, ?_, lm_u_eq, ?_⟩, ⟨fun _ _ => rfl, fun q hq => f2 q (by omega) (by omega), fun _ _ => rfl, fun _ _ => by rw [f2 5 (by decide) (by decide)], rfl, rfl, f2 10 (by decide) (by decide)⟩, by rw [f2 5 (by decide) (by decide)]⟩
  · rw [lm_u_ne (by decide)]; exact c5
  · intro i hi
    show lm_cpr T k r h.2.2.1 h.2.2.2 i = n' 8 i
    unfold lm_cpr
    rw [if_pos c1, f1, ← er]
    rw [hf] at c7
    exact lm_kF_lo t5 t6 24 0 _ _ (by decide) c7 i hi
theorem lm_tak11 (hT : lm_Tok sc T) (hC : lm_C11 m n k r h) (hf : h.1 = r) : ∃ m' n', lm_cal sc (d + 3) 207 [.ref 11] (lm_w m n x) = some (.ok none, lm_w m' n' x) ∧ lm_C11 (lm_u m' 11 2 (Int32.ofInt 0)) n' k r (0, h.2.1, lm_cpr T k r h.2.2.1 h.2.2.2, h.2.2.2) ∧ lm_fa 11 15 m n m' n' ∧ n' 11 3 = n 11 3 := by
  obtain ⟨c1, c2, c5, c6, c7, c8⟩ := hC
  obtain ⟨zs, ys, t1, t2, t3, t4, t5, t6, t7⟩ := hT
  obtain ⟨m', e, f1, f2⟩ := lm_u207 (sc := sc) (d := d + 1) (n := n) (x := x) (m := m) t3 t4
  refine ⟨m', n, e, ⟨c1, c2, ?_, lm_u_eq, ?_, fun i hi => absurd hi (by show ¬ i < 0; omega)⟩, ⟨fun q hq => f2 q (by omega) (by omega), fun _ _ => rfl, fun _ _ => by rw [f2 11 (by decide) (by decide)], fun _ _ => rfl, f2 13 (by decide) (by decide), f2 15 (by decide) (by decide), rfl⟩, rfl⟩
  · rw [lm_u_ne (by decide), f2 11 (by decide) (by decide)]; exact c5
  · intro i hi
    rw [lm_u_row (by decide), f1]
    show _ = Int64.toInt32 (lm_cpr T k r h.2.2.1 h.2.2.2 i)
    unfold lm_cpr
    rw [if_neg c1, if_pos c2, ← lm_cv2_eq (s := m 14) c7 i hi]
    rw [lm_cv2_lo (K' := T.2.2) (b' := h.2.2.2) (fun t ht => (t7 t ht).symm) (fun j hj => c8 j (by omega))]
theorem lm_tak17 (hT : lm_Tok sc T) (hC : lm_C17 m n k r h) (hf : h.1 = r) : ∃ m' n', lm_cal sc (d + 3) 208 [.ref 17] (lm_w m n x) = some (.ok none, lm_w m' n' x) ∧ lm_C17 (lm_u m' 17 2 (Int32.ofInt 0)) n' k r (0, h.2.1, lm_cpr T k r h.2.2.1 h.2.2.2, h.2.2.2) ∧ lm_fa 17 21 m n m' n' ∧ n' 17 3 = n 17 3 := by
  obtain ⟨c1, c2, c5, c6, c7, c8⟩ := hC
  obtain ⟨zs, ys, t1, t2, t3, t4, t5, t6, t7⟩ := hT
  obtain ⟨n', e, f1, f2⟩ := lm_u208 (sc := sc) (d := d + 1) (m := m) (x := x) (n := n) t3 t4
  refine ⟨m, n', e, ⟨c1, c2, ?_, lm_u_eq, ?_, fun i hi => absurd hi (by show ¬ i < 0; omega)⟩, ⟨fun _ _ => rfl, fun q hq => f2 q (by omega) (by omega), fun _ _ => rfl, fun _ _ => by rw [f2 17 (by decide) (by decide)], rfl, rfl, f2 21 (by decide) (by decide)⟩, by rw [f2 17 (by decide) (by decide)]⟩
  · rw [lm_u_ne (by decide)]; exact c5
  · intro i hi
    rw [f1]
    show _ = lm_cpr T k r h.2.2.1 h.2.2.2 i
    unfold lm_cpr
    rw [if_neg c1, if_neg (by omega)]
    exact lm_cc5_lo (fun t ht => (t7 t ht).symm) c7 (fun j hj => c8 j (by omega)) i hi
theorem lm_C5_r (hC : lm_C5 m n k r h) : 64 ≤ r ∧ r ≤ 168 ∧ m 5 1 = Int32.ofNat r ∧ m 5 2 = Int32.ofNat h.1 := by
  obtain ⟨c1, c2, c3, c4, c5, c6, c7⟩ := hC
  exact ⟨by omega, by omega, c5, c6⟩
theorem lm_l140_5 (hT : lm_Tok sc T) {q v a l : Nat} (hq : q < 5 ∨ 5 + 5 < q) (har : lm_ar q = some (1, v)) (hal : a + l ≤ v) (hv : v ≤ 70000) {m0 : lm_MI} {n0 : lm_ML} : ∀ u j (m : lm_MI) (n : lm_ML) (h : lm_HV), l - j ≤ u → j ≤ l → h.1 < r → lm_C5 m n k r h → n 5 3 = h.2.1 + Int64.ofNat (l - j) → m q = m0 q → lm_fa 5 10 m0 n0 m n → ∃ m' n', lm_rn sc (d + 3) lm_m140.2.2.2.2.1 (lm_reg lm_m140.2.2.2.2.2) (14, [(0, .ref 5), (1, .ref q), (2, .int (Int32.ofNat a)), (3, .int (Int32.ofNat l)), (4, .int (Int32.ofNat j))], []) (lm_w m n x) = some (.ok none, lm_w m' n' x) ∧ lm_C5 m' n' k r (lm_hps T k r (fun i => lm_b8 (m0 q i)) (l - j) (a + j) h) ∧ n' 5 3 = h.2.1 + Int64.ofNat (l - j) ∧ lm_fa 5 10 m0 n0 m' n' := by
  intro u
  induction u with
  | zero =>
    intro j m n h hu hj hf hC ht hm hfr
    have e0 : l - j = 0 := by omega
    rw [e0] at ht ⊢
    refine ⟨m, n, ?_, hC, ht, hfr⟩
    refine lm_e140_14 ?_
    unfold lm_q140_14
    exact lm_geT (by omega) (by omega) (by omega) rfl
  | succ u ih =>
    intro j m n h hu hj hf hC ht hm hfr
    by_cases e0 : l - j = 0
    · rw [e0] at ht ⊢
      refine ⟨m, n, ?_, hC, ht, hfr⟩
      refine lm_e140_14 ?_
      unfold lm_q140_14
      exact lm_geT (by omega) (by omega) (by omega) rfl
    obtain ⟨r1, r2, r3, r4⟩ := lm_C5_r hC
    obtain ⟨c, ec⟩ : ∃ c, min (r - h.1) (l - j) = c + 1 := ⟨min (r - h.1) (l - j) - 1, by omega⟩
    have hc1 : c + 1 ≤ l - j := by omega
    have hc2 : h.1 + (c + 1) ≤ r := by omega
    have hP := lm_put5 (q := q) (a := a + j) (c := c + 1) hC
    rw [hm] at hP
    have fP : lm_fa 5 10 m0 n0 (lm_mp m 5 h.1 q (a + j) (c + 1)) n := hfr.tr ⟨fun p hp => lm_mp_row (by omega) (by omega), fun _ _ => rfl, fun i hi => lm_mp_o hi, fun _ _ => rfl, lm_mp_row (by decide) (by decide), lm_mp_row (by decide) (by decide), rfl⟩
    have hPt := lm_hw_t (k := k) (g := fun i => lm_b8 (m0 q i)) (c + 1) (a + j) h
    have hPf := lm_hw_f (k := k) (g := fun i => lm_b8 (m0 q i)) (c + 1) (a + j) h
    have hsp : lm_hps T k r (fun i => lm_b8 (m0 q i)) (l - j) (a + j) h = lm_hps T k r (fun i => lm_b8 (m0 q i)) (l - (j + (c + 1))) (a + (j + (c + 1))) (lm_hps T k r (fun i => lm_b8 (m0 q i)) (c + 1) (a + j) h) := by
      rw [show l - j = (c + 1) + (l - (j + (c + 1))) by omega, lm_hps_add, Nat.add_assoc a j (c + 1)]
    have htt : ∀ t0 : Int64, (t0 + Int64.ofNat (c + 1)) + Int64.ofNat (l - (j + (c + 1))) = t0 + Int64.ofNat (l - j) := fun t0 => by
      rw [Int64.add_assoc, ← Int64.ofNat_add, show c + 1 + (l - (j + (c + 1))) = l - j by omega]
    have head : ∀ R : Except Nat lm_R × lm_S, (lm_if .ne (Int32.ofNat (h.1 + (c + 1))) (Int32.ofNat r) (lm_rn sc (d + 3) lm_m140.2.2.2.2.1 (lm_reg lm_m140.2.2.2.2.2) (94, [(0, .ref 5), (1, .ref q), (2, .int (Int32.ofNat a)), (3, .int (Int32.ofNat l)), (4, .int (Int32.ofNat j + Int32.ofNat (c + 1)))], [])) (lm_bind (lm_sel [(5, 206), (6, 207), (7, 208)] (some (.ref 5))) fun y9 => lm_bind (lm_asV (lm_cal sc (d + 3) y9 [.ref 5])) fun _ => lm_bind (lm_putf 1208 5 (.int (Int32.ofInt 0))) fun _ => lm_rn sc (d + 3) lm_m140.2.2.2.2.1 (lm_reg lm_m140.2.2.2.2.2) (94, [(0, .ref 5), (1, .ref q), (2, .int (Int32.ofNat a)), (3, .int (Int32.ofNat l)), (4, .int (Int32.ofNat j + Int32.ofNat (c + 1)))], []))) (lm_w (lm_mp m 5 h.1 q (a + j) (c + 1)) n x) = some R → lm_rn sc (d + 3) lm_m140.2.2.2.2.1 (lm_reg lm_m140.2.2.2.2.2) (14, [(0, .ref 5), (1, .ref q), (2, .int (Int32.ofNat a)), (3, .int (Int32.ofNat l)), (4, .int (Int32.ofNat j))], []) (lm_w m n x) = some R := by
      intro R K
      refine lm_e140_14 ?_
      unfold lm_q140_14
      refine lm_geF (by omega) (by omega) (by omega) ?_
      repeat (first
    | ((with_reducible apply lm_sI); exact rfl)
    | ((with_reducible apply lm_sR); exact rfl)
    | ((with_reducible apply lm_sS); exact rfl; exact rfl)
    | ((with_reducible apply lm_sL); exact rfl)
    | ((with_reducible apply lm_sP); exact rfl; exact rfl)
    | ((with_reducible apply lm_sPL); exact rfl; exact rfl)
    | ((with_reducible apply lm_sAA); exact rfl; first | exact rfl | exact lm_roO (by omega) | exact lm_roM (by omega))
    | ((with_reducible apply lm_sI); exact lm_fpL (by omega))
    | ((with_reducible apply lm_sR); exact lm_fpB (by omega))
    | ((with_reducible apply lm_sP); exact lm_fpL (by omega); exact rfl)
    | ((with_reducible apply lm_sS); exact lm_ocO (by omega); exact rfl)
    | ((with_reducible apply lm_sA); exact rfl; omega)
    | ((with_reducible apply lm_sJ); exact rfl; omega)
    | ((with_reducible apply lm_sB); (first | exact rfl | exact lm_arB (by omega) | exact lm_arM (by omega)); omega)
    | ((with_reducible apply lm_wA); exact rfl; omega)
    | ((with_reducible apply lm_wJ); exact rfl; omega)
    | ((with_reducible apply lm_wB); (first | exact rfl | exact lm_arB (by omega) | exact lm_arM (by omega)); omega)
    | ((with_reducible apply lm_sAl); (first | exact rfl | exact lm_arB (by omega) | exact lm_arM (by omega)); omega)
    | ((with_reducible apply lm_iW); decide))
      simp only [Nat.reduceDiv, Nat.reduceMod, r3, r4]
      rw [lm_osu (show h.1 ≤ r by omega), lm_osu hj]
      refine lm_cI (lm_u205 (d := d + 2) (by omega) (by omega)) ?_
      rw [ec]
      repeat (first
    | ((with_reducible apply lm_sI); exact rfl)
    | ((with_reducible apply lm_sR); exact rfl)
    | ((with_reducible apply lm_sS); exact rfl; exact rfl)
    | ((with_reducible apply lm_sL); exact rfl)
    | ((with_reducible apply lm_sP); exact rfl; exact rfl)
    | ((with_reducible apply lm_sPL); exact rfl; exact rfl)
    | ((with_reducible apply lm_sAA); exact rfl; first | exact rfl | exact lm_roO (by omega) | exact lm_roM (by omega))
    | ((with_reducible apply lm_sI); exact lm_fpL (by omega))
    | ((with_reducible apply lm_sR); exact lm_fpB (by omega))
    | ((with_reducible apply lm_sP); exact lm_fpL (by omega); exact rfl)
    | ((with_reducible apply lm_sS); exact lm_ocO (by omega); exact rfl)
    | ((with_reducible apply lm_sA); exact rfl; omega)
    | ((with_reducible apply lm_sJ); exact rfl; omega)
    | ((with_reducible apply lm_sB); (first | exact rfl | exact lm_arB (by omega) | exact lm_arM (by omega)); omega)
    | ((with_reducible apply lm_wA); exact rfl; omega)
    | ((with_reducible apply lm_wJ); exact rfl; omega)
    | ((with_reducible apply lm_wB); (first | exact rfl | exact lm_arB (by omega) | exact lm_arM (by omega)); omega)
    | ((with_reducible apply lm_sAl); (first | exact rfl | exact lm_arB (by omega) | exact lm_arM (by omega)); omega)
    | ((with_reducible apply lm_iW); decide))
      simp only [Nat.reduceDiv, Nat.reduceMod, r4]
      rw [lm_oo]
      refine lm_sCp har rfl (Or.inr rfl) (by omega) (by omega) ?_
      repeat (first
    | ((with_reducible apply lm_sI); exact rfl)
    | ((with_reducible apply lm_sR); exact rfl)
    | ((with_reducible apply lm_sS); exact rfl; exact rfl)
    | ((with_reducible apply lm_sL); exact rfl)
    | ((with_reducible apply lm_sP); exact rfl; exact rfl)
    | ((with_reducible apply lm_sPL); exact rfl; exact rfl)
    | ((with_reducible apply lm_sAA); exact rfl; first | exact rfl | exact lm_roO (by omega) | exact lm_roM (by omega))
    | ((with_reducible apply lm_sI); exact lm_fpL (by omega))
    | ((with_reducible apply lm_sR); exact lm_fpB (by omega))
    | ((with_reducible apply lm_sP); exact lm_fpL (by omega); exact rfl)
    | ((with_reducible apply lm_sS); exact lm_ocO (by omega); exact rfl)
    | ((with_reducible apply lm_sA); exact rfl; omega)
    | ((with_reducible apply lm_sJ); exact rfl; omega)
    | ((with_reducible apply lm_sB); (first | exact rfl | exact lm_arB (by omega) | exact lm_arM (by omega)); omega)
    | ((with_reducible apply lm_wA); exact rfl; omega)
    | ((with_reducible apply lm_wJ); exact rfl; omega)
    | ((with_reducible apply lm_wB); (first | exact rfl | exact lm_arB (by omega) | exact lm_arM (by omega)); omega)
    | ((with_reducible apply lm_sAl); (first | exact rfl | exact lm_arB (by omega) | exact lm_arM (by omega)); omega)
    | ((with_reducible apply lm_iW); decide))
      simp only [Nat.reduceDiv, Nat.reduceMod, lm_u_eq]
      rw [lm_u_ne (by decide), lm_cp_row (show 5 ≠ 5 + 1 by decide), r3, r4, lm_oo]
      exact K
    by_cases cf : h.1 + (c + 1) = r
    · obtain ⟨m2, n2, e2, C2, f2, t2⟩ := lm_tak5 (d := d) (x := x) hT hP (by rw [hPf]; exact cf)
      have fU : lm_fa 5 10 m2 n2 (lm_u m2 5 2 (Int32.ofInt 0)) n2 := ⟨fun p hp => lm_u_row (by omega), fun _ _ => rfl, fun i hi => lm_u_ne (fun g => hi g.2), fun _ _ => rfl, lm_u_row (by decide), lm_u_row (by decide), rfl⟩
      have fA := (fP.tr f2).tr fU
      rw [← lm_hps_eq (T := T) (r := r) c (a + j) h cf] at C2
      have tt : (lm_hps T k r (fun i => lm_b8 (m0 q i)) (c + 1) (a + j) h).2.1 = h.2.1 + Int64.ofNat (c + 1) := by
        rw [lm_hps_eq (T := T) (r := r) c (a + j) h cf]
        exact hPt
      obtain ⟨m3, n3, e3, C3, t3, f3⟩ := ih (j + (c + 1)) (lm_u m2 5 2 (Int32.ofInt 0)) n2 _ (by omega) (by omega) (lm_hps_f _ _ _ hf) C2 (by rw [t2, ht, tt, htt]) (fA.1 q hq) fA
      rw [← hsp] at C3
      rw [tt, htt] at t3
      refine ⟨m3, n3, head _ ?_, C3, t3, f3⟩
      rw [cf]
      refine lm_neF (by omega) (by omega) (fun g => g rfl) ?_
      repeat (first
    | ((with_reducible apply lm_sI); exact rfl)
    | ((with_reducible apply lm_sR); exact rfl)
    | ((with_reducible apply lm_sS); exact rfl; exact rfl)
    | ((with_reducible apply lm_sL); exact rfl)
    | ((with_reducible apply lm_sP); exact rfl; exact rfl)
    | ((with_reducible apply lm_sPL); exact rfl; exact rfl)
    | ((with_reducible apply lm_sAA); exact rfl; first | exact rfl | exact lm_roO (by omega) | exact lm_roM (by omega))
    | ((with_reducible apply lm_sI); exact lm_fpL (by omega))
    | ((with_reducible apply lm_sR); exact lm_fpB (by omega))
    | ((with_reducible apply lm_sP); exact lm_fpL (by omega); exact rfl)
    | ((with_reducible apply lm_sS); exact lm_ocO (by omega); exact rfl)
    | ((with_reducible apply lm_sA); exact rfl; omega)
    | ((with_reducible apply lm_sJ); exact rfl; omega)
    | ((with_reducible apply lm_sB); (first | exact rfl | exact lm_arB (by omega) | exact lm_arM (by omega)); omega)
    | ((with_reducible apply lm_wA); exact rfl; omega)
    | ((with_reducible apply lm_wJ); exact rfl; omega)
    | ((with_reducible apply lm_wB); (first | exact rfl | exact lm_arB (by omega) | exact lm_arM (by omega)); omega)
    | ((with_reducible apply lm_sAl); (first | exact rfl | exact lm_arB (by omega) | exact lm_arM (by omega)); omega)
    | ((with_reducible apply lm_iW); decide))
      refine lm_cV e2 ?_
      repeat (first
    | ((with_reducible apply lm_sI); exact rfl)
    | ((with_reducible apply lm_sR); exact rfl)
    | ((with_reducible apply lm_sS); exact rfl; exact rfl)
    | ((with_reducible apply lm_sL); exact rfl)
    | ((with_reducible apply lm_sP); exact rfl; exact rfl)
    | ((with_reducible apply lm_sPL); exact rfl; exact rfl)
    | ((with_reducible apply lm_sAA); exact rfl; first | exact rfl | exact lm_roO (by omega) | exact lm_roM (by omega))
    | ((with_reducible apply lm_sI); exact lm_fpL (by omega))
    | ((with_reducible apply lm_sR); exact lm_fpB (by omega))
    | ((with_reducible apply lm_sP); exact lm_fpL (by omega); exact rfl)
    | ((with_reducible apply lm_sS); exact lm_ocO (by omega); exact rfl)
    | ((with_reducible apply lm_sA); exact rfl; omega)
    | ((with_reducible apply lm_sJ); exact rfl; omega)
    | ((with_reducible apply lm_sB); (first | exact rfl | exact lm_arB (by omega) | exact lm_arM (by omega)); omega)
    | ((with_reducible apply lm_wA); exact rfl; omega)
    | ((with_reducible apply lm_wJ); exact rfl; omega)
    | ((with_reducible apply lm_wB); (first | exact rfl | exact lm_arB (by omega) | exact lm_arM (by omega)); omega)
    | ((with_reducible apply lm_sAl); (first | exact rfl | exact lm_arB (by omega) | exact lm_arM (by omega)); omega)
    | ((with_reducible apply lm_iW); decide))
      refine lm_e140_94 ?_
      unfold lm_q140_94
      rw [lm_oo]
      exact e3
    · have eh := lm_hps_lt (T := T) (k := k) (r := r) (g := fun i => lm_b8 (m0 q i)) (c + 1) (a + j) h (by omega)
      rw [← eh] at hP hPt hPf
      obtain ⟨m3, n3, e3, C3, t3, f3⟩ := ih (j + (c + 1)) (lm_mp m 5 h.1 q (a + j) (c + 1)) n _ (by omega) (by omega) (lm_hps_f _ _ _ hf) hP (by rw [ht, hPt, htt]) (fP.1 q hq) fP
      rw [← hsp] at C3
      rw [hPt, htt] at t3
      refine ⟨m3, n3, head _ ?_, C3, t3, f3⟩
      refine lm_neT (by omega) (by omega) cf ?_
      refine lm_e140_94 ?_
      unfold lm_q140_94
      rw [lm_oo]
      exact e3
theorem lm_u140_5 (hT : lm_Tok sc T) {q v a l : Nat} (hq : q < 5 ∨ 5 + 5 < q) (har : lm_ar q = some (1, v)) (hal : a + l ≤ v) (hv : v ≤ 70000) (hf : h.1 < r) (hC : lm_C5 m n k r h) (ht : n 5 3 = h.2.1) : ∃ m' n', lm_cal sc (d + 4) 140 [.ref 5, .ref q, .int (Int32.ofNat a), .int (Int32.ofNat l)] (lm_w m n x) = some (.ok none, lm_w m' n' x) ∧ lm_C5 m' n' k r (lm_hps T k r (fun i => lm_b8 (m q i)) l a h) ∧ n' 5 3 = h.2.1 + Int64.ofNat l ∧ lm_fa 5 10 m n m' n' := by
  have hC2 : lm_C5 m (lm_u n 5 3 (h.2.1 + Int64.ofNat l)) k r h := by
    obtain ⟨c1, c2, c3, c4, c5, c6, c7⟩ := hC
    exact ⟨c1, c2, c3, c4, c5, c6, fun i hi => by rw [lm_u_row (by decide)]; exact c7 i hi⟩
  obtain ⟨m', n', e, C, t, f⟩ := lm_l140_5 (sc := sc) (d := d) (x := x) (T := T) (q := q) (a := a) (l := l) (m0 := m) (n0 := n) hT hq har hal hv l 0 m (lm_u n 5 3 (h.2.1 + Int64.ofNat l)) h (by omega) (by omega) hf hC2 lm_u_eq rfl ⟨fun _ _ => rfl, fun q hq => lm_u_row (by omega), fun _ _ => rfl, fun i hi => lm_u_ne (fun g => hi g.2), rfl, rfl, lm_u_row (by decide)⟩
  refine ⟨m', n', ?_, C, t, f⟩
  refine lm_cal_of (Y := lm_m140) rfl rfl (lm_e140_0 ?_)
  unfold lm_q140_0
  repeat (first
    | ((with_reducible apply lm_sI); exact rfl)
    | ((with_reducible apply lm_sR); exact rfl)
    | ((with_reducible apply lm_sS); exact rfl; exact rfl)
    | ((with_reducible apply lm_sL); exact rfl)
    | ((with_reducible apply lm_sP); exact rfl; exact rfl)
    | ((with_reducible apply lm_sPL); exact rfl; exact rfl)
    | ((with_reducible apply lm_sAA); exact rfl; first | exact rfl | exact lm_roO (by omega) | exact lm_roM (by omega))
    | ((with_reducible apply lm_sI); exact lm_fpL (by omega))
    | ((with_reducible apply lm_sR); exact lm_fpB (by omega))
    | ((with_reducible apply lm_sP); exact lm_fpL (by omega); exact rfl)
    | ((with_reducible apply lm_sS); exact lm_ocO (by omega); exact rfl)
    | ((with_reducible apply lm_sA); exact rfl; omega)
    | ((with_reducible apply lm_sJ); exact rfl; omega)
    | ((with_reducible apply lm_sB); (first | exact rfl | exact lm_arB (by omega) | exact lm_arM (by omega)); omega)
    | ((with_reducible apply lm_wA); exact rfl; omega)
    | ((with_reducible apply lm_wJ); exact rfl; omega)
    | ((with_reducible apply lm_wB); (first | exact rfl | exact lm_arB (by omega) | exact lm_arM (by omega)); omega)
    | ((with_reducible apply lm_sAl); (first | exact rfl | exact lm_arB (by omega) | exact lm_arM (by omega)); omega)
    | ((with_reducible apply lm_iW); decide))
  simp only [Nat.reduceDiv, Nat.reduceMod, ht]
  rw [lm_i2l (by omega)]
  exact e
theorem lm_C11_r (hC : lm_C11 m n k r h) : 64 ≤ r ∧ r ≤ 64 ∧ m 11 1 = Int32.ofNat r ∧ m 11 2 = Int32.ofNat h.1 := by
  obtain ⟨c1, c2, c5, c6, c7, c8⟩ := hC
  exact ⟨by omega, by omega, c5, c6⟩
theorem lm_l140_11 (hT : lm_Tok sc T) {q v a l : Nat} (hq : q < 11 ∨ 11 + 5 < q) (har : lm_ar q = some (1, v)) (hal : a + l ≤ v) (hv : v ≤ 70000) {m0 : lm_MI} {n0 : lm_ML} : ∀ u j (m : lm_MI) (n : lm_ML) (h : lm_HV), l - j ≤ u → j ≤ l → h.1 < r → lm_C11 m n k r h → n 11 3 = h.2.1 + Int64.ofNat (l - j) → m q = m0 q → lm_fa 11 15 m0 n0 m n → ∃ m' n', lm_rn sc (d + 3) lm_m140.2.2.2.2.1 (lm_reg lm_m140.2.2.2.2.2) (14, [(0, .ref 11), (1, .ref q), (2, .int (Int32.ofNat a)), (3, .int (Int32.ofNat l)), (4, .int (Int32.ofNat j))], []) (lm_w m n x) = some (.ok none, lm_w m' n' x) ∧ lm_C11 m' n' k r (lm_hps T k r (fun i => lm_b8 (m0 q i)) (l - j) (a + j) h) ∧ n' 11 3 = h.2.1 + Int64.ofNat (l - j) ∧ lm_fa 11 15 m0 n0 m' n' := by
  intro u
  induction u with
  | zero =>
    intro j m n h hu hj hf hC ht hm hfr
    have e0 : l - j = 0 := by omega
    rw [e0] at ht ⊢
    refine ⟨m, n, ?_, hC, ht, hfr⟩
    refine lm_e140_14 ?_
    unfold lm_q140_14
    exact lm_geT (by omega) (by omega) (by omega) rfl
  | succ u ih =>
    intro j m n h hu hj hf hC ht hm hfr
    by_cases e0 : l - j = 0
    · rw [e0] at ht ⊢
      refine ⟨m, n, ?_, hC, ht, hfr⟩
      refine lm_e140_14 ?_
      unfold lm_q140_14
      exact lm_geT (by omega) (by omega) (by omega) rfl
    obtain ⟨r1, r2, r3, r4⟩ := lm_C11_r hC
    obtain ⟨c, ec⟩ : ∃ c, min (r - h.1) (l - j) = c + 1 := ⟨min (r - h.1) (l - j) - 1, by omega⟩
    have hc1 : c + 1 ≤ l - j := by omega
    have hc2 : h.1 + (c + 1) ≤ r := by omega
    have hP := lm_put11 (q := q) (a := a + j) (c := c + 1) hC
    rw [hm] at hP
    have fP : lm_fa 11 15 m0 n0 (lm_mp m 11 h.1 q (a + j) (c + 1)) n := hfr.tr ⟨fun p hp => lm_mp_row (by omega) (by omega), fun _ _ => rfl, fun i hi => lm_mp_o hi, fun _ _ => rfl, lm_mp_row (by decide) (by decide), lm_mp_row (by decide) (by decide), rfl⟩
    have hPt := lm_hw_t (k := k) (g := fun i => lm_b8 (m0 q i)) (c + 1) (a + j) h
    have hPf := lm_hw_f (k := k) (g := fun i => lm_b8 (m0 q i)) (c + 1) (a + j) h
    have hsp : lm_hps T k r (fun i => lm_b8 (m0 q i)) (l - j) (a + j) h = lm_hps T k r (fun i => lm_b8 (m0 q i)) (l - (j + (c + 1))) (a + (j + (c + 1))) (lm_hps T k r (fun i => lm_b8 (m0 q i)) (c + 1) (a + j) h) := by
      rw [show l - j = (c + 1) + (l - (j + (c + 1))) by omega, lm_hps_add, Nat.add_assoc a j (c + 1)]
    have htt : ∀ t0 : Int64, (t0 + Int64.ofNat (c + 1)) + Int64.ofNat (l - (j + (c + 1))) = t0 + Int64.ofNat (l - j) := fun t0 => by
      rw [Int64.add_assoc, ← Int64.ofNat_add, show c + 1 + (l - (j + (c + 1))) = l - j by omega]
    have head : ∀ R : Except Nat lm_R × lm_S, (lm_if .ne (Int32.ofNat (h.1 + (c + 1))) (Int32.ofNat r) (lm_rn sc (d + 3) lm_m140.2.2.2.2.1 (lm_reg lm_m140.2.2.2.2.2) (94, [(0, .ref 11), (1, .ref q), (2, .int (Int32.ofNat a)), (3, .int (Int32.ofNat l)), (4, .int (Int32.ofNat j + Int32.ofNat (c + 1)))], [])) (lm_bind (lm_sel [(5, 206), (6, 207), (7, 208)] (some (.ref 11))) fun y9 => lm_bind (lm_asV (lm_cal sc (d + 3) y9 [.ref 11])) fun _ => lm_bind (lm_putf 1208 11 (.int (Int32.ofInt 0))) fun _ => lm_rn sc (d + 3) lm_m140.2.2.2.2.1 (lm_reg lm_m140.2.2.2.2.2) (94, [(0, .ref 11), (1, .ref q), (2, .int (Int32.ofNat a)), (3, .int (Int32.ofNat l)), (4, .int (Int32.ofNat j + Int32.ofNat (c + 1)))], []))) (lm_w (lm_mp m 11 h.1 q (a + j) (c + 1)) n x) = some R → lm_rn sc (d + 3) lm_m140.2.2.2.2.1 (lm_reg lm_m140.2.2.2.2.2) (14, [(0, .ref 11), (1, .ref q), (2, .int (Int32.ofNat a)), (3, .int (Int32.ofNat l)), (4, .int (Int32.ofNat j))], []) (lm_w m n x) = some R := by
      intro R K
      refine lm_e140_14 ?_
      unfold lm_q140_14
      refine lm_geF (by omega) (by omega) (by omega) ?_
      repeat (first
    | ((with_reducible apply lm_sI); exact rfl)
    | ((with_reducible apply lm_sR); exact rfl)
    | ((with_reducible apply lm_sS); exact rfl; exact rfl)
    | ((with_reducible apply lm_sL); exact rfl)
    | ((with_reducible apply lm_sP); exact rfl; exact rfl)
    | ((with_reducible apply lm_sPL); exact rfl; exact rfl)
    | ((with_reducible apply lm_sAA); exact rfl; first | exact rfl | exact lm_roO (by omega) | exact lm_roM (by omega))
    | ((with_reducible apply lm_sI); exact lm_fpL (by omega))
    | ((with_reducible apply lm_sR); exact lm_fpB (by omega))
    | ((with_reducible apply lm_sP); exact lm_fpL (by omega); exact rfl)
    | ((with_reducible apply lm_sS); exact lm_ocO (by omega); exact rfl)
    | ((with_reducible apply lm_sA); exact rfl; omega)
    | ((with_reducible apply lm_sJ); exact rfl; omega)
    | ((with_reducible apply lm_sB); (first | exact rfl | exact lm_arB (by omega) | exact lm_arM (by omega)); omega)
    | ((with_reducible apply lm_wA); exact rfl; omega)
    | ((with_reducible apply lm_wJ); exact rfl; omega)
    | ((with_reducible apply lm_wB); (first | exact rfl | exact lm_arB (by omega) | exact lm_arM (by omega)); omega)
    | ((with_reducible apply lm_sAl); (first | exact rfl | exact lm_arB (by omega) | exact lm_arM (by omega)); omega)
    | ((with_reducible apply lm_iW); decide))
      simp only [Nat.reduceDiv, Nat.reduceMod, r3, r4]
      rw [lm_osu (show h.1 ≤ r by omega), lm_osu hj]
      refine lm_cI (lm_u205 (d := d + 2) (by omega) (by omega)) ?_
      rw [ec]
      repeat (first
    | ((with_reducible apply lm_sI); exact rfl)
    | ((with_reducible apply lm_sR); exact rfl)
    | ((with_reducible apply lm_sS); exact rfl; exact rfl)
    | ((with_reducible apply lm_sL); exact rfl)
    | ((with_reducible apply lm_sP); exact rfl; exact rfl)
    | ((with_reducible apply lm_sPL); exact rfl; exact rfl)
    | ((with_reducible apply lm_sAA); exact rfl; first | exact rfl | exact lm_roO (by omega) | exact lm_roM (by omega))
    | ((with_reducible apply lm_sI); exact lm_fpL (by omega))
    | ((with_reducible apply lm_sR); exact lm_fpB (by omega))
    | ((with_reducible apply lm_sP); exact lm_fpL (by omega); exact rfl)
    | ((with_reducible apply lm_sS); exact lm_ocO (by omega); exact rfl)
    | ((with_reducible apply lm_sA); exact rfl; omega)
    | ((with_reducible apply lm_sJ); exact rfl; omega)
    | ((with_reducible apply lm_sB); (first | exact rfl | exact lm_arB (by omega) | exact lm_arM (by omega)); omega)
    | ((with_reducible apply lm_wA); exact rfl; omega)
    | ((with_reducible apply lm_wJ); exact rfl; omega)
    | ((with_reducible apply lm_wB); (first | exact rfl | exact lm_arB (by omega) | exact lm_arM (by omega)); omega)
    | ((with_reducible apply lm_sAl); (first | exact rfl | exact lm_arB (by omega) | exact lm_arM (by omega)); omega)
    | ((with_reducible apply lm_iW); decide))
      simp only [Nat.reduceDiv, Nat.reduceMod, r4]
      rw [lm_oo]
      refine lm_sCp har rfl (Or.inr rfl) (by omega) (by omega) ?_
      repeat (first
    | ((with_reducible apply lm_sI); exact rfl)
    | ((with_reducible apply lm_sR); exact rfl)
    | ((with_reducible apply lm_sS); exact rfl; exact rfl)
    | ((with_reducible apply lm_sL); exact rfl)
    | ((with_reducible apply lm_sP); exact rfl; exact rfl)
    | ((with_reducible apply lm_sPL); exact rfl; exact rfl)
    | ((with_reducible apply lm_sAA); exact rfl; first | exact rfl | exact lm_roO (by omega) | exact lm_roM (by omega))
    | ((with_reducible apply lm_sI); exact lm_fpL (by omega))
    | ((with_reducible apply lm_sR); exact lm_fpB (by omega))
    | ((with_reducible apply lm_sP); exact lm_fpL (by omega); exact rfl)
    | ((with_reducible apply lm_sS); exact lm_ocO (by omega); exact rfl)
    | ((with_reducible apply lm_sA); exact rfl; omega)
    | ((with_reducible apply lm_sJ); exact rfl; omega)
    | ((with_reducible apply lm_sB); (first | exact rfl | exact lm_arB (by omega) | exact lm_arM (by omega)); omega)
    | ((with_reducible apply lm_wA); exact rfl; omega)
    | ((with_reducible apply lm_wJ); exact rfl; omega)
    | ((with_reducible apply lm_wB); (first | exact rfl | exact lm_arB (by omega) | exact lm_arM (by omega)); omega)
    | ((with_reducible apply lm_sAl); (first | exact rfl | exact lm_arB (by omega) | exact lm_arM (by omega)); omega)
    | ((with_reducible apply lm_iW); decide))
      simp only [Nat.reduceDiv, Nat.reduceMod, lm_u_eq]
      rw [lm_u_ne (by decide), lm_cp_row (show 11 ≠ 11 + 1 by decide), r3, r4, lm_oo]
      exact K
    by_cases cf : h.1 + (c + 1) = r
    · obtain ⟨m2, n2, e2, C2, f2, t2⟩ := lm_tak11 (d := d) (x := x) hT hP (by rw [hPf]; exact cf)
      have fU : lm_fa 11 15 m2 n2 (lm_u m2 11 2 (Int32.ofInt 0)) n2 := ⟨fun p hp => lm_u_row (by omega), fun _ _ => rfl, fun i hi => lm_u_ne (fun g => hi g.2), fun _ _ => rfl, lm_u_row (by decide), lm_u_row (by decide), rfl⟩
      have fA := (fP.tr f2).tr fU
      rw [← lm_hps_eq (T := T) (r := r) c (a + j) h cf] at C2
      have tt : (lm_hps T k r (fun i => lm_b8 (m0 q i)) (c + 1) (a + j) h).2.1 = h.2.1 + Int64.ofNat (c + 1) := by
        rw [lm_hps_eq (T := T) (r := r) c (a + j) h cf]
        exact hPt
      obtain ⟨m3, n3, e3, C3, t3, f3⟩ := ih (j + (c + 1)) (lm_u m2 11 2 (Int32.ofInt 0)) n2 _ (by omega) (by omega) (lm_hps_f _ _ _ hf) C2 (by rw [t2, ht, tt, htt]) (fA.1 q hq) fA
      rw [← hsp] at C3
      rw [tt, htt] at t3
      refine ⟨m3, n3, head _ ?_, C3, t3, f3⟩
      rw [cf]
      refine lm_neF (by omega) (by omega) (fun g => g rfl) ?_
      repeat (first
    | ((with_reducible apply lm_sI); exact rfl)
    | ((with_reducible apply lm_sR); exact rfl)
    | ((with_reducible apply lm_sS); exact rfl; exact rfl)
    | ((with_reducible apply lm_sL); exact rfl)
    | ((with_reducible apply lm_sP); exact rfl; exact rfl)
    | ((with_reducible apply lm_sPL); exact rfl; exact rfl)
    | ((with_reducible apply lm_sAA); exact rfl; first | exact rfl | exact lm_roO (by omega) | exact lm_roM (by omega))
    | ((with_reducible apply lm_sI); exact lm_fpL (by omega))
    | ((with_reducible apply lm_sR); exact lm_fpB (by omega))
    | ((with_reducible apply lm_sP); exact lm_fpL (by omega); exact rfl)
    | ((with_reducible apply lm_sS); exact lm_ocO (by omega); exact rfl)
    | ((with_reducible apply lm_sA); exact rfl; omega)
    | ((with_reducible apply lm_sJ); exact rfl; omega)
    | ((with_reducible apply lm_sB); (first | exact rfl | exact lm_arB (by omega) | exact lm_arM (by omega)); omega)
    | ((with_reducible apply lm_wA); exact rfl; omega)
    | ((with_reducible apply lm_wJ); exact rfl; omega)
    | ((with_reducible apply lm_wB); (first | exact rfl | exact lm_arB (by omega) | exact lm_arM (by omega)); omega)
    | ((with_reducible apply lm_sAl); (first | exact rfl | exact lm_arB (by omega) | exact lm_arM (by omega)); omega)
    | ((with_reducible apply lm_iW); decide))
      refine lm_cV e2 ?_
      repeat (first
    | ((with_reducible apply lm_sI); exact rfl)
    | ((with_reducible apply lm_sR); exact rfl)
    | ((with_reducible apply lm_sS); exact rfl; exact rfl)
    | ((with_reducible apply lm_sL); exact rfl)
    | ((with_reducible apply lm_sP); exact rfl; exact rfl)
    | ((with_reducible apply lm_sPL); exact rfl; exact rfl)
    | ((with_reducible apply lm_sAA); exact rfl; first | exact rfl | exact lm_roO (by omega) | exact lm_roM (by omega))
    | ((with_reducible apply lm_sI); exact lm_fpL (by omega))
    | ((with_reducible apply lm_sR); exact lm_fpB (by omega))
    | ((with_reducible apply lm_sP); exact lm_fpL (by omega); exact rfl)
    | ((with_reducible apply lm_sS); exact lm_ocO (by omega); exact rfl)
    | ((with_reducible apply lm_sA); exact rfl; omega)
    | ((with_reducible apply lm_sJ); exact rfl; omega)
    | ((with_reducible apply lm_sB); (first | exact rfl | exact lm_arB (by omega) | exact lm_arM (by omega)); omega)
    | ((with_reducible apply lm_wA); exact rfl; omega)
    | ((with_reducible apply lm_wJ); exact rfl; omega)
    | ((with_reducible apply lm_wB); (first | exact rfl | exact lm_arB (by omega) | exact lm_arM (by omega)); omega)
    | ((with_reducible apply lm_sAl); (first | exact rfl | exact lm_arB (by omega) | exact lm_arM (by omega)); omega)
    | ((with_reducible apply lm_iW); decide))
      refine lm_e140_94 ?_
      unfold lm_q140_94
      rw [lm_oo]
      exact e3
    · have eh := lm_hps_lt (T := T) (k := k) (r := r) (g := fun i => lm_b8 (m0 q i)) (c + 1) (a + j) h (by omega)
      rw [← eh] at hP hPt hPf
      obtain ⟨m3, n3, e3, C3, t3, f3⟩ := ih (j + (c + 1)) (lm_mp m 11 h.1 q (a + j) (c + 1)) n _ (by omega) (by omega) (lm_hps_f _ _ _ hf) hP (by rw [ht, hPt, htt]) (fP.1 q hq) fP
      rw [← hsp] at C3
      rw [hPt, htt] at t3
      refine ⟨m3, n3, head _ ?_, C3, t3, f3⟩
      refine lm_neT (by omega) (by omega) cf ?_
      refine lm_e140_94 ?_
      unfold lm_q140_94
      rw [lm_oo]
      exact e3
theorem lm_u140_11 (hT : lm_Tok sc T) {q v a l : Nat} (hq : q < 11 ∨ 11 + 5 < q) (har : lm_ar q = some (1, v)) (hal : a + l ≤ v) (hv : v ≤ 70000) (hf : h.1 < r) (hC : lm_C11 m n k r h) (ht : n 11 3 = h.2.1) : ∃ m' n', lm_cal sc (d + 4) 140 [.ref 11, .ref q, .int (Int32.ofNat a), .int (Int32.ofNat l)] (lm_w m n x) = some (.ok none, lm_w m' n' x) ∧ lm_C11 m' n' k r (lm_hps T k r (fun i => lm_b8 (m q i)) l a h) ∧ n' 11 3 = h.2.1 + Int64.ofNat l ∧ lm_fa 11 15 m n m' n' := by
  have hC2 : lm_C11 m (lm_u n 11 3 (h.2.1 + Int64.ofNat l)) k r h := by
    obtain ⟨c1, c2, c5, c6, c7, c8⟩ := hC
    exact ⟨c1, c2, c5, c6, c7, c8⟩
  obtain ⟨m', n', e, C, t, f⟩ := lm_l140_11 (sc := sc) (d := d) (x := x) (T := T) (q := q) (a := a) (l := l) (m0 := m) (n0 := n) hT hq har hal hv l 0 m (lm_u n 11 3 (h.2.1 + Int64.ofNat l)) h (by omega) (by omega) hf hC2 lm_u_eq rfl ⟨fun _ _ => rfl, fun q hq => lm_u_row (by omega), fun _ _ => rfl, fun i hi => lm_u_ne (fun g => hi g.2), rfl, rfl, lm_u_row (by decide)⟩
  refine ⟨m', n', ?_, C, t, f⟩
  refine lm_cal_of (Y := lm_m140) rfl rfl (lm_e140_0 ?_)
  unfold lm_q140_0
  repeat (first
    | ((with_reducible apply lm_sI); exact rfl)
    | ((with_reducible apply lm_sR); exact rfl)
    | ((with_reducible apply lm_sS); exact rfl; exact rfl)
    | ((with_reducible apply lm_sL); exact rfl)
    | ((with_reducible apply lm_sP); exact rfl; exact rfl)
    | ((with_reducible apply lm_sPL); exact rfl; exact rfl)
    | ((with_reducible apply lm_sAA); exact rfl; first | exact rfl | exact lm_roO (by omega) | exact lm_roM (by omega))
    | ((with_reducible apply lm_sI); exact lm_fpL (by omega))
    | ((with_reducible apply lm_sR); exact lm_fpB (by omega))
    | ((with_reducible apply lm_sP); exact lm_fpL (by omega); exact rfl)
    | ((with_reducible apply lm_sS); exact lm_ocO (by omega); exact rfl)
    | ((with_reducible apply lm_sA); exact rfl; omega)
    | ((with_reducible apply lm_sJ); exact rfl; omega)
    | ((with_reducible apply lm_sB); (first | exact rfl | exact lm_arB (by omega) | exact lm_arM (by omega)); omega)
    | ((with_reducible apply lm_wA); exact rfl; omega)
    | ((with_reducible apply lm_wJ); exact rfl; omega)
    | ((with_reducible apply lm_wB); (first | exact rfl | exact lm_arB (by omega) | exact lm_arM (by omega)); omega)
    | ((with_reducible apply lm_sAl); (first | exact rfl | exact lm_arB (by omega) | exact lm_arM (by omega)); omega)
    | ((with_reducible apply lm_iW); decide))
  simp only [Nat.reduceDiv, Nat.reduceMod, ht]
  rw [lm_i2l (by omega)]
  exact e
theorem lm_C17_r (hC : lm_C17 m n k r h) : 64 ≤ r ∧ r ≤ 128 ∧ m 17 1 = Int32.ofNat r ∧ m 17 2 = Int32.ofNat h.1 := by
  obtain ⟨c1, c2, c5, c6, c7, c8⟩ := hC
  exact ⟨by omega, by omega, c5, c6⟩
theorem lm_l140_17 (hT : lm_Tok sc T) {q v a l : Nat} (hq : q < 17 ∨ 17 + 5 < q) (har : lm_ar q = some (1, v)) (hal : a + l ≤ v) (hv : v ≤ 70000) {m0 : lm_MI} {n0 : lm_ML} : ∀ u j (m : lm_MI) (n : lm_ML) (h : lm_HV), l - j ≤ u → j ≤ l → h.1 < r → lm_C17 m n k r h → n 17 3 = h.2.1 + Int64.ofNat (l - j) → m q = m0 q → lm_fa 17 21 m0 n0 m n → ∃ m' n', lm_rn sc (d + 3) lm_m140.2.2.2.2.1 (lm_reg lm_m140.2.2.2.2.2) (14, [(0, .ref 17), (1, .ref q), (2, .int (Int32.ofNat a)), (3, .int (Int32.ofNat l)), (4, .int (Int32.ofNat j))], []) (lm_w m n x) = some (.ok none, lm_w m' n' x) ∧ lm_C17 m' n' k r (lm_hps T k r (fun i => lm_b8 (m0 q i)) (l - j) (a + j) h) ∧ n' 17 3 = h.2.1 + Int64.ofNat (l - j) ∧ lm_fa 17 21 m0 n0 m' n' := by
  intro u
  induction u with
  | zero =>
    intro j m n h hu hj hf hC ht hm hfr
    have e0 : l - j = 0 := by omega
    rw [e0] at ht ⊢
    refine ⟨m, n, ?_, hC, ht, hfr⟩
    refine lm_e140_14 ?_
    unfold lm_q140_14
    exact lm_geT (by omega) (by omega) (by omega) rfl
  | succ u ih =>
    intro j m n h hu hj hf hC ht hm hfr
    by_cases e0 : l - j = 0
    · rw [e0] at ht ⊢
      refine ⟨m, n, ?_, hC, ht, hfr⟩
      refine lm_e140_14 ?_
      unfold lm_q140_14
      exact lm_geT (by omega) (by omega) (by omega) rfl
    obtain ⟨r1, r2, r3, r4⟩ := lm_C17_r hC
    obtain ⟨c, ec⟩ : ∃ c, min (r - h.1) (l - j) = c + 1 := ⟨min (r - h.1) (l - j) - 1, by omega⟩
    have hc1 : c + 1 ≤ l - j := by omega
    have hc2 : h.1 + (c + 1) ≤ r := by omega
    have hP := lm_put17 (q := q) (a := a + j) (c := c + 1) hC
    rw [hm] at hP
    have fP : lm_fa 17 21 m0 n0 (lm_mp m 17 h.1 q (a + j) (c + 1)) n := hfr.tr ⟨fun p hp => lm_mp_row (by omega) (by omega), fun _ _ => rfl, fun i hi => lm_mp_o hi, fun _ _ => rfl, lm_mp_row (by decide) (by decide), lm_mp_row (by decide) (by decide), rfl⟩
    have hPt := lm_hw_t (k := k) (g := fun i => lm_b8 (m0 q i)) (c + 1) (a + j) h
    have hPf := lm_hw_f (k := k) (g := fun i => lm_b8 (m0 q i)) (c + 1) (a + j) h
    have hsp : lm_hps T k r (fun i => lm_b8 (m0 q i)) (l - j) (a + j) h = lm_hps T k r (fun i => lm_b8 (m0 q i)) (l - (j + (c + 1))) (a + (j + (c + 1))) (lm_hps T k r (fun i => lm_b8 (m0 q i)) (c + 1) (a + j) h) := by
      rw [show l - j = (c + 1) + (l - (j + (c + 1))) by omega, lm_hps_add, Nat.add_assoc a j (c + 1)]
    have htt : ∀ t0 : Int64, (t0 + Int64.ofNat (c + 1)) + Int64.ofNat (l - (j + (c + 1))) = t0 + Int64.ofNat (l - j) := fun t0 => by
      rw [Int64.add_assoc, ← Int64.ofNat_add, show c + 1 + (l - (j + (c + 1))) = l - j by omega]
    have head : ∀ R : Except Nat lm_R × lm_S, (lm_if .ne (Int32.ofNat (h.1 + (c + 1))) (Int32.ofNat r) (lm_rn sc (d + 3) lm_m140.2.2.2.2.1 (lm_reg lm_m140.2.2.2.2.2) (94, [(0, .ref 17), (1, .ref q), (2, .int (Int32.ofNat a)), (3, .int (Int32.ofNat l)), (4, .int (Int32.ofNat j + Int32.ofNat (c + 1)))], [])) (lm_bind (lm_sel [(5, 206), (6, 207), (7, 208)] (some (.ref 17))) fun y9 => lm_bind (lm_asV (lm_cal sc (d + 3) y9 [.ref 17])) fun _ => lm_bind (lm_putf 1208 17 (.int (Int32.ofInt 0))) fun _ => lm_rn sc (d + 3) lm_m140.2.2.2.2.1 (lm_reg lm_m140.2.2.2.2.2) (94, [(0, .ref 17), (1, .ref q), (2, .int (Int32.ofNat a)), (3, .int (Int32.ofNat l)), (4, .int (Int32.ofNat j + Int32.ofNat (c + 1)))], []))) (lm_w (lm_mp m 17 h.1 q (a + j) (c + 1)) n x) = some R → lm_rn sc (d + 3) lm_m140.2.2.2.2.1 (lm_reg lm_m140.2.2.2.2.2) (14, [(0, .ref 17), (1, .ref q), (2, .int (Int32.ofNat a)), (3, .int (Int32.ofNat l)), (4, .int (Int32.ofNat j))], []) (lm_w m n x) = some R := by
      intro R K
      refine lm_e140_14 ?_
      unfold lm_q140_14
      refine lm_geF (by omega) (by omega) (by omega) ?_
      repeat (first
    | ((with_reducible apply lm_sI); exact rfl)
    | ((with_reducible apply lm_sR); exact rfl)
    | ((with_reducible apply lm_sS); exact rfl; exact rfl)
    | ((with_reducible apply lm_sL); exact rfl)
    | ((with_reducible apply lm_sP); exact rfl; exact rfl)
    | ((with_reducible apply lm_sPL); exact rfl; exact rfl)
    | ((with_reducible apply lm_sAA); exact rfl; first | exact rfl | exact lm_roO (by omega) | exact lm_roM (by omega))
    | ((with_reducible apply lm_sI); exact lm_fpL (by omega))
    | ((with_reducible apply lm_sR); exact lm_fpB (by omega))
    | ((with_reducible apply lm_sP); exact lm_fpL (by omega); exact rfl)
    | ((with_reducible apply lm_sS); exact lm_ocO (by omega); exact rfl)
    | ((with_reducible apply lm_sA); exact rfl; omega)
    | ((with_reducible apply lm_sJ); exact rfl; omega)
    | ((with_reducible apply lm_sB); (first | exact rfl | exact lm_arB (by omega) | exact lm_arM (by omega)); omega)
    | ((with_reducible apply lm_wA); exact rfl; omega)
    | ((with_reducible apply lm_wJ); exact rfl; omega)
    | ((with_reducible apply lm_wB); (first | exact rfl | exact lm_arB (by omega) | exact lm_arM (by omega)); omega)
    | ((with_reducible apply lm_sAl); (first | exact rfl | exact lm_arB (by omega) | exact lm_arM (by omega)); omega)
    | ((with_reducible apply lm_iW); decide))
      simp only [Nat.reduceDiv, Nat.reduceMod, r3, r4]
      rw [lm_osu (show h.1 ≤ r by omega), lm_osu hj]
      refine lm_cI (lm_u205 (d := d + 2) (by omega) (by omega)) ?_
      rw [ec]
      repeat (first
    | ((with_reducible apply lm_sI); exact rfl)
    | ((with_reducible apply lm_sR); exact rfl)
    | ((with_reducible apply lm_sS); exact rfl; exact rfl)
    | ((with_reducible apply lm_sL); exact rfl)
    | ((with_reducible apply lm_sP); exact rfl; exact rfl)
    | ((with_reducible apply lm_sPL); exact rfl; exact rfl)
    | ((with_reducible apply lm_sAA); exact rfl; first | exact rfl | exact lm_roO (by omega) | exact lm_roM (by omega))
    | ((with_reducible apply lm_sI); exact lm_fpL (by omega))
    | ((with_reducible apply lm_sR); exact lm_fpB (by omega))
    | ((with_reducible apply lm_sP); exact lm_fpL (by omega); exact rfl)
    | ((with_reducible apply lm_sS); exact lm_ocO (by omega); exact rfl)
    | ((with_reducible apply lm_sA); exact rfl; omega)
    | ((with_reducible apply lm_sJ); exact rfl; omega)
    | ((with_reducible apply lm_sB); (first | exact rfl | exact lm_arB (by omega) | exact lm_arM (by omega)); omega)
    | ((with_reducible apply lm_wA); exact rfl; omega)
    | ((with_reducible apply lm_wJ); exact rfl; omega)
    | ((with_reducible apply lm_wB); (first | exact rfl | exact lm_arB (by omega) | exact lm_arM (by omega)); omega)
    | ((with_reducible apply lm_sAl); (first | exact rfl | exact lm_arB (by omega) | exact lm_arM (by omega)); omega)
    | ((with_reducible apply lm_iW); decide))
      simp only [Nat.reduceDiv, Nat.reduceMod, r4]
      rw [lm_oo]
      refine lm_sCp har rfl (Or.inr rfl) (by omega) (by omega) ?_
      repeat (first
    | ((with_reducible apply lm_sI); exact rfl)
    | ((with_reducible apply lm_sR); exact rfl)
    | ((with_reducible apply lm_sS); exact rfl; exact rfl)
    | ((with_reducible apply lm_sL); exact rfl)
    | ((with_reducible apply lm_sP); exact rfl; exact rfl)
    | ((with_reducible apply lm_sPL); exact rfl; exact rfl)
    | ((with_reducible apply lm_sAA); exact rfl; first | exact rfl | exact lm_roO (by omega) | exact lm_roM (by omega))
    | ((with_reducible apply lm_sI); exact lm_fpL (by omega))
    | ((with_reducible apply lm_sR); exact lm_fpB (by omega))
    | ((with_reducible apply lm_sP); exact lm_fpL (by omega); exact rfl)
    | ((with_reducible apply lm_sS); exact lm_ocO (by omega); exact rfl)
    | ((with_reducible apply lm_sA); exact rfl; omega)
    | ((with_reducible apply lm_sJ); exact rfl; omega)
    | ((with_reducible apply lm_sB); (first | exact rfl | exact lm_arB (by omega) | exact lm_arM (by omega)); omega)
    | ((with_reducible apply lm_wA); exact rfl; omega)
    | ((with_reducible apply lm_wJ); exact rfl; omega)
    | ((with_reducible apply lm_wB); (first | exact rfl | exact lm_arB (by omega) | exact lm_arM (by omega)); omega)
    | ((with_reducible apply lm_sAl); (first | exact rfl | exact lm_arB (by omega) | exact lm_arM (by omega)); omega)
    | ((with_reducible apply lm_iW); decide))
      simp only [Nat.reduceDiv, Nat.reduceMod, lm_u_eq]
      rw [lm_u_ne (by decide), lm_cp_row (show 17 ≠ 17 + 1 by decide), r3, r4, lm_oo]
      exact K
    by_cases cf : h.1 + (c + 1) = r
    · obtain ⟨m2, n2, e2, C2, f2, t2⟩ := lm_tak17 (d := d) (x := x) hT hP (by rw [hPf]; exact cf)
      have fU : lm_fa 17 21 m2 n2 (lm_u m2 17 2 (Int32.ofInt 0)) n2 := ⟨fun p hp => lm_u_row (by omega), fun _ _ => rfl, fun i hi => lm_u_ne (fun g => hi g.2), fun _ _ => rfl, lm_u_row (by decide), lm_u_row (by decide), rfl⟩
      have fA := (fP.tr f2).tr fU
      rw [← lm_hps_eq (T := T) (r := r) c (a + j) h cf] at C2
      have tt : (lm_hps T k r (fun i => lm_b8 (m0 q i)) (c + 1) (a + j) h).2.1 = h.2.1 + Int64.ofNat (c + 1) := by
        rw [lm_hps_eq (T := T) (r := r) c (a + j) h cf]
        exact hPt
      obtain ⟨m3, n3, e3, C3, t3, f3⟩ := ih (j + (c + 1)) (lm_u m2 17 2 (Int32.ofInt 0)) n2 _ (by omega) (by omega) (lm_hps_f _ _ _ hf) C2 (by rw [t2, ht, tt, htt]) (fA.1 q hq) fA
      rw [← hsp] at C3
      rw [tt, htt] at t3
      refine ⟨m3, n3, head _ ?_, C3, t3, f3⟩
      rw [cf]
      refine lm_neF (by omega) (by omega) (fun g => g rfl) ?_
      repeat (first
    | ((with_reducible apply lm_sI); exact rfl)
    | ((with_reducible apply lm_sR); exact rfl)
    | ((with_reducible apply lm_sS); exact rfl; exact rfl)
    | ((with_reducible apply lm_sL); exact rfl)
    | ((with_reducible apply lm_sP); exact rfl; exact rfl)
    | ((with_reducible apply lm_sPL); exact rfl; exact rfl)
    | ((with_reducible apply lm_sAA); exact rfl; first | exact rfl | exact lm_roO (by omega) | exact lm_roM (by omega))
    | ((with_reducible apply lm_sI); exact lm_fpL (by omega))
    | ((with_reducible apply lm_sR); exact lm_fpB (by omega))
    | ((with_reducible apply lm_sP); exact lm_fpL (by omega); exact rfl)
    | ((with_reducible apply lm_sS); exact lm_ocO (by omega); exact rfl)
    | ((with_reducible apply lm_sA); exact rfl; omega)
    | ((with_reducible apply lm_sJ); exact rfl; omega)
    | ((with_reducible apply lm_sB); (first | exact rfl | exact lm_arB (by omega) | exact lm_arM (by omega)); omega)
    | ((with_reducible apply lm_wA); exact rfl; omega)
    | ((with_reducible apply lm_wJ); exact rfl; omega)
    | ((with_reducible apply lm_wB); (first | exact rfl | exact lm_arB (by omega) | exact lm_arM (by omega)); omega)
    | ((with_reducible apply lm_sAl); (first | exact rfl | exact lm_arB (by omega) | exact lm_arM (by omega)); omega)
    | ((with_reducible apply lm_iW); decide))
      refine lm_cV e2 ?_
      repeat (first
    | ((with_reducible apply lm_sI); exact rfl)
    | ((with_reducible apply lm_sR); exact rfl)
    | ((with_reducible apply lm_sS); exact rfl; exact rfl)
    | ((with_reducible apply lm_sL); exact rfl)
    | ((with_reducible apply lm_sP); exact rfl; exact rfl)
    | ((with_reducible apply lm_sPL); exact rfl; exact rfl)
    | ((with_reducible apply lm_sAA); exact rfl; first | exact rfl | exact lm_roO (by omega) | exact lm_roM (by omega))
    | ((with_reducible apply lm_sI); exact lm_fpL (by omega))
    | ((with_reducible apply lm_sR); exact lm_fpB (by omega))
    | ((with_reducible apply lm_sP); exact lm_fpL (by omega); exact rfl)
    | ((with_reducible apply lm_sS); exact lm_ocO (by omega); exact rfl)
    | ((with_reducible apply lm_sA); exact rfl; omega)
    | ((with_reducible apply lm_sJ); exact rfl; omega)
    | ((with_reducible apply lm_sB); (first | exact rfl | exact lm_arB (by omega) | exact lm_arM (by omega)); omega)
    | ((with_reducible apply lm_wA); exact rfl; omega)
    | ((with_reducible apply lm_wJ); exact rfl; omega)
    | ((with_reducible apply lm_wB); (first | exact rfl | exact lm_arB (by omega) | exact lm_arM (by omega)); omega)
    | ((with_reducible apply lm_sAl); (first | exact rfl | exact lm_arB (by omega) | exact lm_arM (by omega)); omega)
    | ((with_reducible apply lm_iW); decide))
      refine lm_e140_94 ?_
      unfold lm_q140_94
      rw [lm_oo]
      exact e3
    · have eh := lm_hps_lt (T := T) (k := k) (r := r) (g := fun i => lm_b8 (m0 q i)) (c + 1) (a + j) h (by omega)
      rw [← eh] at hP hPt hPf
      obtain ⟨m3, n3, e3, C3, t3, f3⟩ := ih (j + (c + 1)) (lm_mp m 17 h.1 q (a + j) (c + 1)) n _ (by omega) (by omega) (lm_hps_f _ _ _ hf) hP (by rw [ht, hPt, htt]) (fP.1 q hq) fP
      rw [← hsp] at C3
      rw [hPt, htt] at t3
      refine ⟨m3, n3, head _ ?_, C3, t3, f3⟩
      refine lm_neT (by omega) (by omega) cf ?_
      refine lm_e140_94 ?_
      unfold lm_q140_94
      rw [lm_oo]
      exact e3
theorem lm_u140_17 (hT : lm_Tok sc T) {q v a l : Nat} (hq : q < 17 ∨ 17 + 5 < q) (har : lm_ar q = some (1, v)) (hal : a + l ≤ v) (hv : v ≤ 70000) (hf : h.1 < r) (hC : lm_C17 m n k r h) (ht : n 17 3 = h.2.1) : ∃ m' n', lm_cal sc (d + 4) 140 [.ref 17, .ref q, .int (Int32.ofNat a), .int (Int32.ofNat l)] (lm_w m n x) = some (.ok none, lm_w m' n' x) ∧ lm_C17 m' n' k r (lm_hps T k r (fun i => lm_b8 (m q i)) l a h) ∧ n' 17 3 = h.2.1 + Int64.ofNat l ∧ lm_fa 17 21 m n m' n' := by
  have hC2 : lm_C17 m (lm_u n 17 3 (h.2.1 + Int64.ofNat l)) k r h := by
    obtain ⟨c1, c2, c5, c6, c7, c8⟩ := hC
    exact ⟨c1, c2, c5, c6, fun i hi => by rw [lm_u_row (by decide)]; exact c7 i hi, c8⟩
  obtain ⟨m', n', e, C, t, f⟩ := lm_l140_17 (sc := sc) (d := d) (x := x) (T := T) (q := q) (a := a) (l := l) (m0 := m) (n0 := n) hT hq har hal hv l 0 m (lm_u n 17 3 (h.2.1 + Int64.ofNat l)) h (by omega) (by omega) hf hC2 lm_u_eq rfl ⟨fun _ _ => rfl, fun q hq => lm_u_row (by omega), fun _ _ => rfl, fun i hi => lm_u_ne (fun g => hi g.2), rfl, rfl, lm_u_row (by decide)⟩
  refine ⟨m', n', ?_, C, t, f⟩
  refine lm_cal_of (Y := lm_m140) rfl rfl (lm_e140_0 ?_)
  unfold lm_q140_0
  repeat (first
    | ((with_reducible apply lm_sI); exact rfl)
    | ((with_reducible apply lm_sR); exact rfl)
    | ((with_reducible apply lm_sS); exact rfl; exact rfl)
    | ((with_reducible apply lm_sL); exact rfl)
    | ((with_reducible apply lm_sP); exact rfl; exact rfl)
    | ((with_reducible apply lm_sPL); exact rfl; exact rfl)
    | ((with_reducible apply lm_sAA); exact rfl; first | exact rfl | exact lm_roO (by omega) | exact lm_roM (by omega))
    | ((with_reducible apply lm_sI); exact lm_fpL (by omega))
    | ((with_reducible apply lm_sR); exact lm_fpB (by omega))
    | ((with_reducible apply lm_sP); exact lm_fpL (by omega); exact rfl)
    | ((with_reducible apply lm_sS); exact lm_ocO (by omega); exact rfl)
    | ((with_reducible apply lm_sA); exact rfl; omega)
    | ((with_reducible apply lm_sJ); exact rfl; omega)
    | ((with_reducible apply lm_sB); (first | exact rfl | exact lm_arB (by omega) | exact lm_arM (by omega)); omega)
    | ((with_reducible apply lm_wA); exact rfl; omega)
    | ((with_reducible apply lm_wJ); exact rfl; omega)
    | ((with_reducible apply lm_wB); (first | exact rfl | exact lm_arB (by omega) | exact lm_arM (by omega)); omega)
    | ((with_reducible apply lm_sAl); (first | exact rfl | exact lm_arB (by omega) | exact lm_arM (by omega)); omega)
    | ((with_reducible apply lm_iW); decide))
  simp only [Nat.reduceDiv, Nat.reduceMod, ht]
  rw [lm_i2l (by omega)]
  exact e
end LMAD
