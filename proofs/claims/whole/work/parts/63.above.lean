/-! ===== the reference's above: is (w + P / 2^64)^T more than N? ===== -/
/-- limbs of sixteen bits, the lowest first -/
def lm_V (f : Nat → Nat) : Nat → Nat
  | 0 => 0
  | k + 1 => lm_V f k + f k * 2 ^ (16 * k)
theorem lm_V_congr {f g : Nat → Nat} : ∀ k, (∀ i, i < k → f i = g i) → lm_V f k = lm_V g k := by
  intro k
  induction k with
  | zero => intro _; rfl
  | succ k ih =>
    intro h
    unfold lm_V
    rw [ih (fun i hi => h i (by omega)), h k (by omega)]
theorem lm_V_zero : ∀ k, lm_V (fun _ => 0) k = 0 := by
  intro k
  induction k with
  | zero => rfl
  | succ k ih =>
    unfold lm_V
    rw [ih]
    simp
theorem lm_V_upd {f : Nat → Nat} {a v : Nat} : ∀ k, a < k → lm_V (fun i => if i = a then f a + v else f i) k = lm_V f k + v * 2 ^ (16 * a) := by
  intro k
  induction k with
  | zero => intro h; omega
  | succ k ih =>
    intro h
    unfold lm_V
    by_cases e : a = k
    · subst e
      rw [lm_V_congr (g := f) a (fun i hi => if_neg (by omega)), if_pos rfl, Nat.add_mul, Nat.add_assoc]
    · rw [ih (by omega), if_neg (by omega)]
      omega
theorem lm_V_lt {f : Nat → Nat} : ∀ k, (∀ i, i < k → f i < 65536) → lm_V f k < 2 ^ (16 * k) := by
  intro k
  induction k with
  | zero => intro _; exact Nat.one_pos
  | succ k ih =>
    intro h
    unfold lm_V
    have h1 := ih (fun i hi => h i (by omega))
    have h2 := h k (by omega)
    have h3 : (f k + 1) * 2 ^ (16 * k) ≤ 65536 * 2 ^ (16 * k) := Nat.mul_le_mul_right _ (by omega)
    rw [show 16 * (k + 1) = 16 * k + 16 by omega, Nat.pow_add]
    rw [Nat.add_mul] at h3
    have : (2 : Nat) ^ 16 = 65536 := rfl
    rw [this, Nat.mul_comm (2 ^ (16 * k)) 65536]
    omega
theorem lm_V_split {f : Nat → Nat} (a : Nat) : ∀ k, lm_V f (a + k) = lm_V f a + lm_V (fun i => f (a + i)) k * 2 ^ (16 * a) := by
  intro k
  induction k with
  | zero => simp [lm_V]
  | succ k ih =>
    rw [← Nat.add_assoc]
    show lm_V f (a + k) + f (a + k) * 2 ^ (16 * (a + k)) = lm_V f a + (lm_V (fun i => f (a + i)) k + f (a + k) * 2 ^ (16 * k)) * 2 ^ (16 * a)
    rw [ih, Nat.add_mul, Nat.mul_assoc, ← Nat.pow_add, Nat.add_assoc, show 16 * k + 16 * a = 16 * (a + k) by omega]
theorem lm_V_nz {f : Nat → Nat} : ∀ k, lm_V f k = 0 ↔ ∀ i, i < k → f i = 0 := by
  intro k
  induction k with
  | zero => exact ⟨fun _ i hi => by omega, fun _ => rfl⟩
  | succ k ih =>
    have hp : 0 < 2 ^ (16 * k) := Nat.two_pow_pos _
    refine ⟨fun h i hi => ?_, fun h => ?_⟩
    · have h1 : lm_V f k + f k * 2 ^ (16 * k) = 0 := h
      have h2 : lm_V f k = 0 := by omega
      have h3 : f k * 2 ^ (16 * k) = 0 := by omega
      by_cases e : i = k
      · subst e
        rcases Nat.mul_eq_zero.mp h3 with h4 | h4
        · exact h4
        · omega
      · exact ih.mp h2 i (by omega)
    · show lm_V f k + f k * 2 ^ (16 * k) = 0
      rw [ih.mpr (fun i hi => h i (by omega)), h k (by omega)]
      simp
theorem lm_llt {a b : Nat} (ha : a < 9223372036854775808) (hb : b < 9223372036854775808) : Int64.ofNat a < Int64.ofNat b ↔ a < b := by
  rw [Int64.lt_iff_toInt_lt, lm_tl ha, lm_tl hb]
  omega
theorem lm_leq {a b : Nat} (ha : a < 9223372036854775808) (hb : b < 9223372036854775808) : Int64.ofNat a = Int64.ofNat b ↔ a = b := by
  refine ⟨fun h => ?_, fun h => by rw [h]⟩
  have h1 := congrArg Int64.toInt h
  rw [lm_tl ha, lm_tl hb] at h1
  omega
theorem lm_cg {a b : Nat} (ha : a < 9223372036854775808) (hb : b < 9223372036854775808) : lm_cmp .gt (lg_cmp (Int64.ofNat a) (Int64.ofNat b)) 0 ↔ b < a := by
  unfold lg_cmp
  by_cases h : b < a
  · rw [if_pos ((lm_llt hb ha).mpr h)]
    exact ⟨fun _ => h, fun _ => show (0 : Int32) < 1 by decide⟩
  · rw [if_neg (fun g => h ((lm_llt hb ha).mp g))]
    refine ⟨fun g => ?_, fun g => absurd g h⟩
    exfalso
    by_cases e : Int64.ofNat a = Int64.ofNat b
    · rw [if_pos e] at g
      exact absurd g (show ¬ (0 : Int32) < 0 by decide)
    · rw [if_neg e] at g
      exact absurd g (show ¬ (0 : Int32) < -1 by decide)
theorem lm_ce {a b : Int64} : lg_cmp a b = 0 ↔ a = b := by
  unfold lg_cmp
  by_cases h : a > b
  · rw [if_pos h]
    exact ⟨fun g => absurd g (by decide), fun g => by subst g; exact absurd h (Int64.lt_irrefl)⟩
  · rw [if_neg h]
    by_cases e : a = b
    · rw [if_pos e]
      exact ⟨fun _ => e, fun _ => rfl⟩
    · rw [if_neg e]
      exact ⟨fun g => absurd g (by decide), fun g => absurd g e⟩
/-- is one of k limbs from t on not 0? -/
def lm_an (p : Nat → Nat) : Nat → Nat → Bool
  | 0, _ => false
  | k + 1, t => cond (Nat.beq (p t) 0) (lm_an p k (t + 1)) true
theorem lm_an_iff {p : Nat → Nat} : ∀ k t, lm_an p k t = true ↔ ∃ i, t ≤ i ∧ i < t + k ∧ p i ≠ 0 := by
  intro k
  induction k with
  | zero => intro t; exact ⟨fun h => (by cases h), fun ⟨i, h1, h2, _⟩ => by omega⟩
  | succ k ih =>
    intro t
    unfold lm_an
    cases h : Nat.beq (p t) 0 with
    | true =>
      have h1 := Nat.eq_of_beq_eq_true h
      rw [cond_true, ih]
      refine ⟨fun ⟨i, a, b, c⟩ => ⟨i, by omega, by omega, c⟩, fun ⟨i, a, b, c⟩ => ⟨i, ?_, by omega, c⟩⟩
      by_cases e : i = t
      · subst e; exact absurd h1 c
      · omega
    | false =>
      rw [cond_false]
      refine ⟨fun _ => ⟨t, by omega, by omega, fun h1 => ?_⟩, fun _ => rfl⟩
      rw [h1] at h
      cases h
section LMAB
variable {sc : lm_H} {d : Nat} {m : lm_MI} {x : lm_H × Nat × Nat} {N T : Nat}
theorem lm_a240 {n : lm_ML} {p : Nat → Nat} {tp : Nat} (hT : T ≤ 3) (hN : N < 2147483648) (htp : tp < 4294967296) (hp : ∀ i, i < 16 → n 220 i = Int64.ofNat (p i)) (hb : ∀ i, i < 16 → p i < 65536) : ∀ k t (b : Bool), t + k = 4 * T → lm_rn sc d lm_m197.2.2.2.2.1 (lm_reg lm_m197.2.2.2.2.2) (240, [(0, .ref 203), (4, .int (Int32.ofNat T)), (5, .int (Int32.ofNat N)), (6, .long (Int64.ofNat tp)), (8, .int (lm_z b)), (9, .int (Int32.ofNat t))], []) (lm_w m n x) = some (.ok (some (.int (lm_z (decide (N < tp) || (decide (tp = N) && (b || lm_an p k t)))))), lm_w m n x) := by
  have hi : (Int32.ofNat N).toInt64 = Int64.ofNat N := lm_i2l hN
  intro k
  induction k with
  | zero =>
    intro t b ht
    refine lm_e197_240 ?_
    unfold lm_q197_240
    simp only [lm_K4, lm_om, hi]
    refine lm_geT (by omega) (by omega) (by omega) ?_
    by_cases h1 : N < tp
    · refine lm_iT ((lm_cg (by omega) (by omega)).mpr h1) ?_
      refine lm_e197_293 ?_
      unfold lm_q197_293
      rw [decide_eq_true h1, Bool.true_or]
      exact lm_iW (by decide) rfl
    · refine lm_iF (fun g => h1 ((lm_cg (by omega) (by omega)).mp g)) ?_
      rw [decide_eq_false h1, Bool.false_or]
      by_cases h2 : tp = N
      · refine lm_iF (show ¬ ¬ lg_cmp _ _ = 0 from fun g => g (lm_ce.mpr (by rw [h2]))) ?_
        rw [decide_eq_true h2, Bool.true_and, show lm_an p 0 t = false from rfl, Bool.or_false]
        cases b with
        | false => exact lm_iT (show (0 : Int32) = 0 by decide) (lm_iW (by decide) rfl)
        | true =>
          refine lm_iF (show ¬ (1 : Int32) = 0 by decide) ?_
          refine lm_e197_293 ?_
          unfold lm_q197_293
          exact lm_iW (by decide) rfl
      · refine lm_iT (show ¬ lg_cmp _ _ = 0 from fun g => h2 ((lm_leq (by omega) (by omega)).mp (lm_ce.mp g))) ?_
        rw [decide_eq_false h2, Bool.false_and]
        exact lm_iW (by decide) rfl
  | succ k ih =>
    intro t b ht
    refine lm_e197_240 ?_
    unfold lm_q197_240
    simp only [lm_K4, lm_om]
    refine lm_geF (by omega) (by omega) (by omega) ?_
    repeat (first
    | ((with_reducible apply lm_sI); exact rfl)
    | ((with_reducible apply lm_sR); exact rfl)
    | ((with_reducible apply lm_sS); exact rfl; exact rfl)
    | ((with_reducible apply lm_sL); exact rfl)
    | ((with_reducible apply lm_sP); exact rfl; exact rfl)
    | ((with_reducible apply lm_sPL); exact rfl; exact rfl)
    | ((with_reducible apply lm_sAA); exact rfl; first | exact rfl | exact lm_roO (by omega) | exact lm_roM (by omega))
    | ((with_reducible apply lm_sI); exact lm_fpL (by omega))
    | ((with_reducible apply lm_sR); exact lm_fpB (by omega))
    | ((with_reducible apply lm_sP); exact lm_fpL (by omega); exact rfl)
    | ((with_reducible apply lm_sS); exact lm_ocO (by omega); exact rfl)
    | ((with_reducible apply lm_sA); exact rfl; omega)
    | ((with_reducible apply lm_sJ); exact rfl; omega)
    | ((with_reducible apply lm_sB); (first | exact rfl | exact lm_arB (by omega) | exact lm_arM (by omega)); omega)
    | ((with_reducible apply lm_wA); exact rfl; omega)
    | ((with_reducible apply lm_wJ); exact rfl; omega)
    | ((with_reducible apply lm_wB); (first | exact rfl | exact lm_arB (by omega) | exact lm_arM (by omega)); omega)
    | ((with_reducible apply lm_sAl); (first | exact rfl | exact lm_arB (by omega) | exact lm_arM (by omega)); omega)
    | ((with_reducible apply lm_iW); decide))
    have hpt := hb t (by omega)
    rw [hp t (by omega)]
    unfold lm_an
    by_cases h : p t = 0
    · refine lm_iT (show lg_cmp _ _ = 0 from lm_ce.mpr (by rw [h])) ?_
      refine lm_e197_264 ?_
      unfold lm_q197_264
      rw [h, show Nat.beq 0 0 = true from rfl, cond_true, show Int32.ofNat t + Int32.ofInt 1 = Int32.ofNat (t + 1) from lm_oa t 1]
      exact ih (t + 1) b (by omega)
    · refine lm_iF (show ¬ lg_cmp _ _ = 0 from fun g => h ((lm_leq (by omega) (by omega)).mp (lm_ce.mp g))) ?_
      refine lm_e197_264 ?_
      unfold lm_q197_264
      have e : Nat.beq (p t) 0 = false := by
        cases h1 : Nat.beq (p t) 0 with
        | true => exact absurd (Nat.eq_of_beq_eq_true h1) h
        | false => rfl
      rw [e, cond_false, Bool.or_true, show Int32.ofNat t + Int32.ofInt 1 = Int32.ofNat (t + 1) from lm_oa t 1]
      exact ih (t + 1) true (by omega)
end LMAB
theorem lm_land16 (a : Nat) : Int64.ofNat a &&& Int64.ofNat 65535 = Int64.ofNat (a % 65536) := by
  apply Int64.toBitVec_inj.mp
  apply BitVec.eq_of_toNat_eq
  simp only [Int64.toBitVec_and, Int64.toBitVec_ofNat', BitVec.toNat_and, BitVec.toNat_ofNat]
  have e : 65535 % 2 ^ 64 = 2 ^ 16 - 1 := by decide
  rw [e, Nat.and_two_pow_sub_one_eq_mod]
  omega
theorem lm_uLn {a k : Nat} (ha : a < 18446744073709551616) (hk : k < 64) : lm_uL (Int64.ofNat a) (Int32.ofNat k) = Int64.ofNat (a / 2 ^ k) := by
  unfold lm_uL
  rw [lm_i2l (by omega)]
  apply Int64.toBitVec_inj.mp
  apply BitVec.eq_of_toNat_eq
  have e : ((Int64.ofNat k).toUInt64 &&& Int64.toUInt64 63).toNat = k := by
    rw [UInt64.toNat_and]
    show (BitVec.ofNat 64 k).toNat &&& 63 = k
    rw [BitVec.toNat_ofNat, Nat.mod_eq_of_lt (by omega), show (63 : Nat) = 2 ^ 6 - 1 from rfl, Nat.and_two_pow_sub_one_eq_mod]
    omega
  show ((Int64.ofNat a).toUInt64 >>> ((Int64.ofNat k).toUInt64 &&& Int64.toUInt64 63)).toNat = _
  rw [UInt64.toNat_shiftRight, e, Nat.mod_eq_of_lt hk, Nat.shiftRight_eq_div_pow]
  show (BitVec.ofNat 64 a).toNat / 2 ^ k = _
  have h1 : a / 2 ^ k ≤ a := Nat.div_le_self _ _
  rw [Int64.toBitVec_ofNat', BitVec.toNat_ofNat, BitVec.toNat_ofNat, Nat.mod_eq_of_lt ha, Nat.mod_eq_of_lt (by omega)]
theorem lm_lsh16 (a : Nat) : Int64.ofNat a <<< ((Int32.toInt64 (Int32.ofInt 16)) &&& 63) = Int64.ofNat (a * 65536) := by
  apply Int64.toBitVec_inj.mp
  apply BitVec.eq_of_toNat_eq
  rw [Int64.toBitVec_shiftLeft]
  show ((BitVec.ofNat 64 a) <<< 16).toNat = (BitVec.ofNat 64 (a * 65536)).toNat
  rw [BitVec.toNat_shiftLeft, BitVec.toNat_ofNat, BitVec.toNat_ofNat, Nat.shiftLeft_eq]
  have : (2 : Nat) ^ 16 = 65536 := rfl
  rw [this, Nat.mod_mul_mod]
/-- how above ends: an answer, and only limbs and product are written -/
def lm_RA (m : lm_MI) (x : lm_H × Nat × Nat) (n0 : lm_ML) (V : Int32) (o : Option (Except Nat lm_R × lm_S)) : Prop := ∃ n', o = some (.ok (some (.int V)), lm_w m n' x) ∧ ∀ q, q ≠ 219 → q ≠ 220 → n' q = n0 q
def lm_f2 (n0 n : lm_ML) : Prop := ∀ q, q ≠ 219 → q ≠ 220 → n q = n0 q
theorem lm_f2.u {n0 n : lm_ML} {q a : Nat} {v : Int64} (h : lm_f2 n0 n) (hq : q = 219 ∨ q = 220) : lm_f2 n0 (lm_u n q a v) := fun p h1 h2 => (lm_u_row (by omega)).trans (h p h1 h2)
section LMA2
variable {sc : lm_H} {d : Nat} {m : lm_MI} {x : lm_H × Nat × Nat} {N T s w P : Nat} {n0 : lm_ML} {V : Int32}
/-- the carries -/
theorem lm_a157 {l : Nat → Nat} (hl : ∀ i, i < 16 → l i < 8796093022208)
    (K : ∀ (n : lm_ML) (p : Nat → Nat), (∀ i, i < 16 → n 220 i = Int64.ofNat (p i)) → (∀ i, i < 16 → p i < 65536) → (∃ c, lm_V p 16 + c * 2 ^ 256 = lm_V l 16) → lm_f2 n0 n → lm_RA m x n0 V (lm_rn sc d lm_m197.2.2.2.2.1 (lm_reg lm_m197.2.2.2.2.2) (36, [(0, .ref 203), (1, .int (Int32.ofNat w)), (2, .long (Int64.ofNat P)), (4, .int (Int32.ofNat T)), (5, .int (Int32.ofNat N)), (6, .int (Int32.ofNat (s + 1)))], []) (lm_w m n x))) :
    ∀ k t (n : lm_ML) (p : Nat → Nat) (c : Nat), t + k = 16 → (∀ i, i < 16 → n 219 i = Int64.ofNat (l i)) → (∀ i, i < t → n 220 i = Int64.ofNat (p i)) → (∀ i, i < t → p i < 65536) → c < 8796093022208 → lm_V p t + c * 2 ^ (16 * t) = lm_V l t → lm_f2 n0 n → lm_RA m x n0 V (lm_rn sc d lm_m197.2.2.2.2.1 (lm_reg lm_m197.2.2.2.2.2) (157, [(0, .ref 203), (1, .int (Int32.ofNat w)), (2, .long (Int64.ofNat P)), (4, .int (Int32.ofNat T)), (5, .int (Int32.ofNat N)), (6, .int (Int32.ofNat s)), (7, .long (Int64.ofNat c)), (9, .int (Int32.ofNat t))], []) (lm_w m n x)) := by
  intro k
  induction k with
  | zero =>
    intro t n p c ht h1 h2 h3 h4 h5 h6
    have ht : t = 16 := ht
    subst ht
    obtain ⟨n', e, f⟩ := K n p h2 h3 ⟨c, h5⟩ h6
    refine ⟨n', ?_, f⟩
    refine lm_e197_157 ?_
    unfold lm_q197_157
    rw [lm_K16]
    refine lm_geT (by decide) (by decide) (by decide) ?_
    rw [show Int32.ofNat s + Int32.ofInt 1 = Int32.ofNat (s + 1) from lm_oa s 1]
    exact e
  | succ k ih =>
    intro t n p c ht h1 h2 h3 h4 h5 h6
    have hlt := hl t (by omega)
    have hd : (c + l t) / 65536 < 8796093022208 := by omega
    have hm : (c + l t) % 65536 < 65536 := Nat.mod_lt _ (by decide)
    obtain ⟨n', e, f⟩ := ih (t + 1) (lm_u n 220 t (Int64.ofNat ((c + l t) % 65536))) (fun i => if i = t then (c + l t) % 65536 else p i) ((c + l t) / 65536) (by omega) (fun i hi => by rw [lm_u_row (by decide)]; exact h1 i hi) (fun i hi => by
        by_cases g : i = t
        · subst g
          rw [lm_u_eq, if_pos rfl]
        · rw [lm_u_ne (fun g2 => g g2.2), if_neg g]
          exact h2 i (by omega)) (fun i hi => by
        by_cases g : i = t
        · rw [if_pos g]; exact hm
        · rw [if_neg g]; exact h3 i (by omega)) hd (by
        show lm_V (fun i => if i = t then (c + l t) % 65536 else p i) t + (if t = t then (c + l t) % 65536 else p t) * 2 ^ (16 * t) + (c + l t) / 65536 * 2 ^ (16 * (t + 1)) = lm_V l t + l t * 2 ^ (16 * t)
        rw [lm_V_congr (g := p) t (fun i hi => if_neg (by omega)), if_pos rfl, ← h5, show 16 * (t + 1) = 16 * t + 16 by omega, Nat.pow_add, Nat.mul_comm (2 ^ (16 * t)) (2 ^ 16), ← Nat.mul_assoc, Nat.add_assoc, Nat.add_assoc, ← Nat.add_mul, ← Nat.add_mul]
        congr 2
        omega) (h6.u (Or.inr rfl))
    refine ⟨n', ?_, f⟩
    refine lm_e197_157 ?_
    unfold lm_q197_157
    rw [lm_K16]
    refine lm_geF (by omega) (by omega) (by omega) ?_
    repeat (first
    | ((with_reducible apply lm_sI); exact rfl)
    | ((with_reducible apply lm_sR); exact rfl)
    | ((with_reducible apply lm_sS); exact rfl; exact rfl)
    | ((with_reducible apply lm_sL); exact rfl)
    | ((with_reducible apply lm_sP); exact rfl; exact rfl)
    | ((with_reducible apply lm_sPL); exact rfl; exact rfl)
    | ((with_reducible apply lm_sAA); exact rfl; first | exact rfl | exact lm_roO (by omega) | exact lm_roM (by omega))
    | ((with_reducible apply lm_sI); exact lm_fpL (by omega))
    | ((with_reducible apply lm_sR); exact lm_fpB (by omega))
    | ((with_reducible apply lm_sP); exact lm_fpL (by omega); exact rfl)
    | ((with_reducible apply lm_sS); exact lm_ocO (by omega); exact rfl)
    | ((with_reducible apply lm_sA); exact rfl; omega)
    | ((with_reducible apply lm_sJ); exact rfl; omega)
    | ((with_reducible apply lm_sB); (first | exact rfl | exact lm_arB (by omega) | exact lm_arM (by omega)); omega)
    | ((with_reducible apply lm_wA); exact rfl; omega)
    | ((with_reducible apply lm_wJ); exact rfl; omega)
    | ((with_reducible apply lm_wB); (first | exact rfl | exact lm_arB (by omega) | exact lm_arM (by omega)); omega)
    | ((with_reducible apply lm_sAl); (first | exact rfl | exact lm_arB (by omega) | exact lm_arM (by omega)); omega)
    | ((with_reducible apply lm_iW); decide))
    rw [h1 t (by omega), lm_lo, lm_land16, lm_uLn (by omega) (by decide), show Int32.ofNat t + Int32.ofInt 1 = Int32.ofNat (t + 1) from lm_oa t 1]
    exact e
end LMA2
/-- the limbs of w and P -/
def lm_xs (w P : Nat) (j : Nat) : Nat := if j < 4 then P / 2 ^ (16 * j) % 65536 else w
def lm_X (w P : Nat) : Nat := w * 2 ^ 64 + P
theorem lm_xs_V {w P : Nat} (hP : P < 18446744073709551616) : lm_V (lm_xs w P) 5 = lm_X w P := by
  unfold lm_X
  simp only [lm_V, lm_xs, Nat.reduceMul, Nat.reducePow, Nat.reduceLT, if_true, if_false, Nat.div_one, Nat.zero_add]
  omega
theorem lm_modadd {M a b c : Nat} (h : a % M = b % M) : (a + c) % M = (b + c) % M := by
  rw [Nat.add_mod, h, ← Nat.add_mod]
section LMA3
variable {sc : lm_H} {d : Nat} {m : lm_MI} {x : lm_H × Nat × Nat} {N T s w P : Nat} {n0 : lm_ML} {V : Int32} {p : Nat → Nat} {B : Nat}
/-- one row of the product -/
theorem lm_a80 {i : Nat} (hB : B = 68719476736) (hi : i < 16) (hw : w < 1048576) (hP : P < 18446744073709551616) (hp : ∀ i, i < 16 → p i < 65536)
    (K : ∀ (n : lm_ML) (l : Nat → Nat), (∀ i, i < 16 → n 219 i = Int64.ofNat (l i)) → (∀ i, i < 16 → n 220 i = Int64.ofNat (p i)) → (∀ k, k < 16 → l k ≤ (5 * (i + 1)) * B) → lm_V l 16 % 2 ^ 256 = (lm_V p (i + 1) * lm_X w P) % 2 ^ 256 → lm_f2 n0 n → lm_RA m x n0 V (lm_rn sc d lm_m197.2.2.2.2.1 (lm_reg lm_m197.2.2.2.2.2) (70, [(0, .ref 203), (1, .int (Int32.ofNat w)), (2, .long (Int64.ofNat P)), (4, .int (Int32.ofNat T)), (5, .int (Int32.ofNat N)), (6, .int (Int32.ofNat s)), (7, .int (Int32.ofNat (i + 1)))], []) (lm_w m n x))) :
    ∀ k j (n : lm_ML) (l : Nat → Nat), j + k = 5 → (∀ i, i < 16 → n 219 i = Int64.ofNat (l i)) → (∀ i, i < 16 → n 220 i = Int64.ofNat (p i)) → (∀ k, k < 16 → l k ≤ (5 * i + j) * B) → i + j ≤ 16 → lm_V l 16 % 2 ^ 256 = (lm_V p i * lm_X w P + p i * 2 ^ (16 * i) * lm_V (lm_xs w P) j) % 2 ^ 256 → lm_f2 n0 n → lm_RA m x n0 V (lm_rn sc d lm_m197.2.2.2.2.1 (lm_reg lm_m197.2.2.2.2.2) (80, [(0, .ref 203), (1, .int (Int32.ofNat w)), (2, .long (Int64.ofNat P)), (4, .int (Int32.ofNat T)), (5, .int (Int32.ofNat N)), (6, .int (Int32.ofNat s)), (7, .int (Int32.ofNat i)), (8, .int (Int32.ofNat j))], []) (lm_w m n x)) := by
  have done : ∀ (n : lm_ML) (l : Nat → Nat), (∀ i, i < 16 → n 219 i = Int64.ofNat (l i)) → (∀ i, i < 16 → n 220 i = Int64.ofNat (p i)) → (∀ k, k < 16 → l k ≤ (5 * (i + 1)) * B) → lm_V l 16 % 2 ^ 256 = (lm_V p i * lm_X w P + p i * 2 ^ (16 * i) * lm_X w P) % 2 ^ 256 → lm_f2 n0 n → lm_RA m x n0 V (lm_rn sc d lm_m197.2.2.2.2.1 (lm_reg lm_m197.2.2.2.2.2) (145, [(0, .ref 203), (1, .int (Int32.ofNat w)), (2, .long (Int64.ofNat P)), (4, .int (Int32.ofNat T)), (5, .int (Int32.ofNat N)), (6, .int (Int32.ofNat s)), (7, .int (Int32.ofNat i))], []) (lm_w m n x)) := by
    intro n l h1 h2 h3 h4 h5
    obtain ⟨n', e, f⟩ := K n l h1 h2 h3 (by rw [h4, ← Nat.add_mul]; rfl) h5
    refine ⟨n', ?_, f⟩
    refine lm_e197_145 ?_
    unfold lm_q197_145
    rw [show Int32.ofNat i + Int32.ofInt 1 = Int32.ofNat (i + 1) from lm_oa i 1]
    exact e
  intro k
  induction k with
  | zero =>
    intro j n l hj h1 h2 h3 hij h4 h5
    have hj : j = 5 := hj
    subst hj
    rw [lm_xs_V hP] at h4
    obtain ⟨n', e, f⟩ := done n l h1 h2 (fun k hk => Nat.le_trans (h3 k hk) (Nat.mul_le_mul_right _ (by omega))) h4 h5
    refine ⟨n', ?_, f⟩
    refine lm_e197_80 ?_
    unfold lm_q197_80
    simp only [lm_K5, lm_K16, lm_oo]
    exact lm_geT (by decide) (by decide) (by decide) e
  | succ k ih =>
    intro j n l hj h1 h2 h3 hij h4 h5
    by_cases hf : i + j = 16
    · have hz : (lm_V p i * lm_X w P + p i * 2 ^ (16 * i) * lm_V (lm_xs w P) j) % 2 ^ 256 = (lm_V p i * lm_X w P + p i * 2 ^ (16 * i) * lm_X w P) % 2 ^ 256 := by
        have e1 : lm_X w P = lm_V (lm_xs w P) j + lm_V (fun t => lm_xs w P (j + t)) (k + 1) * 2 ^ (16 * j) := by
          rw [← lm_V_split, hj, lm_xs_V hP]
        have e2 : p i * 2 ^ (16 * i) * lm_X w P = p i * 2 ^ (16 * i) * lm_V (lm_xs w P) j + 2 ^ 256 * (p i * lm_V (fun t => lm_xs w P (j + t)) (k + 1)) := by
          rw [e1, Nat.mul_add]
          congr 1
          rw [show (256 : Nat) = 16 * i + 16 * j by omega, Nat.pow_add]
          generalize lm_V (fun t => lm_xs w P (j + t)) (k + 1) = Z
          generalize 2 ^ (16 * i) = A
          generalize 2 ^ (16 * j) = B
          rw [Nat.mul_assoc, Nat.mul_left_comm A Z B, Nat.mul_comm (A * B), Nat.mul_assoc]
        rw [e2, ← Nat.add_assoc, Nat.add_mul_mod_self_left]
      obtain ⟨n', e, f⟩ := done n l h1 h2 (fun k hk => Nat.le_trans (h3 k hk) (Nat.mul_le_mul_right _ (by omega))) (h4.trans hz) h5
      refine ⟨n', ?_, f⟩
      refine lm_e197_80 ?_
      unfold lm_q197_80
      simp only [lm_K5, lm_K16, lm_oo]
      exact lm_geF (by omega) (by omega) (by omega) (lm_geT (by omega) (by omega) (by omega) e)
    · have hx : lm_xs w P j < 1048576 := by
        unfold lm_xs
        by_cases c : j < 4
        · rw [if_pos c]
          have := Nat.mod_lt (P / 2 ^ (16 * j)) (show 0 < 65536 by decide)
          omega
        · rw [if_neg c]
          exact hw
      have hpi := hp i hi
      have hpr : p i * lm_xs w P j ≤ 65536 * 1048576 := Nat.mul_le_mul (by omega) (by omega)
      have hlk := h3 (i + j) (by omega)
      have hb : l (i + j) ≤ 80 * B := Nat.le_trans hlk (Nat.mul_le_mul_right _ (by omega))
      obtain ⟨n', e, f⟩ := ih (j + 1) (lm_u n 219 (i + j) (Int64.ofNat (l (i + j) + p i * lm_xs w P j))) (fun t => if t = i + j then l (i + j) + p i * lm_xs w P j else l t) (by omega) (fun t ht => by
          by_cases g : t = i + j
          · subst g
            rw [lm_u_eq, if_pos rfl]
          · rw [lm_u_ne (fun g2 => g g2.2), if_neg g]
            exact h1 t ht) (fun t ht => by rw [lm_u_row (by decide)]; exact h2 t ht) (fun t ht => by
          have g1 := h3 t ht
          have g2 : (5 * i + (j + 1)) * B = (5 * i + j) * B + B := by rw [← Nat.add_assoc, Nat.succ_mul]
          rw [g2]
          by_cases g : t = i + j
          · rw [if_pos g]
            exact Nat.add_le_add hlk (Nat.le_trans hpr (by rw [hB]; decide))
          · rw [if_neg g]
            exact Nat.le_trans g1 (Nat.le_add_right _ _)) (by omega) (by
          rw [lm_V_upd 16 (by omega)]
          show _ = (lm_V p i * lm_X w P + p i * 2 ^ (16 * i) * (lm_V (lm_xs w P) j + lm_xs w P j * 2 ^ (16 * j))) % 2 ^ 256
          rw [Nat.mul_add (p i * 2 ^ (16 * i)), ← Nat.add_assoc (lm_V p i * lm_X w P), lm_modadd h4]
          congr 2
          rw [show 16 * (i + j) = 16 * i + 16 * j by omega, Nat.pow_add]
          generalize lm_xs w P j = Z
          generalize 2 ^ (16 * i) = A
          generalize 2 ^ (16 * j) = B
          rw [Nat.mul_assoc, Nat.mul_assoc, Nat.mul_left_comm Z A B]) (h5.u (Or.inl rfl))
      refine ⟨n', ?_, f⟩
      refine lm_e197_80 ?_
      unfold lm_q197_80
      simp only [lm_K5, lm_K16, lm_K4, lm_oo, lm_om]
      refine lm_geF (by omega) (by omega) (by omega) (lm_geF (by omega) (by omega) (by omega) ?_)
      repeat (first
    | ((with_reducible apply lm_sI); exact rfl)
    | ((with_reducible apply lm_sR); exact rfl)
    | ((with_reducible apply lm_sS); exact rfl; exact rfl)
    | ((with_reducible apply lm_sL); exact rfl)
    | ((with_reducible apply lm_sP); exact rfl; exact rfl)
    | ((with_reducible apply lm_sPL); exact rfl; exact rfl)
    | ((with_reducible apply lm_sAA); exact rfl; first | exact rfl | exact lm_roO (by omega) | exact lm_roM (by omega))
    | ((with_reducible apply lm_sI); exact lm_fpL (by omega))
    | ((with_reducible apply lm_sR); exact lm_fpB (by omega))
    | ((with_reducible apply lm_sP); exact lm_fpL (by omega); exact rfl)
    | ((with_reducible apply lm_sS); exact lm_ocO (by omega); exact rfl)
    | ((with_reducible apply lm_sA); exact rfl; omega)
    | ((with_reducible apply lm_sJ); exact rfl; omega)
    | ((with_reducible apply lm_sB); (first | exact rfl | exact lm_arB (by omega) | exact lm_arM (by omega)); omega)
    | ((with_reducible apply lm_wA); exact rfl; omega)
    | ((with_reducible apply lm_wJ); exact rfl; omega)
    | ((with_reducible apply lm_wB); (first | exact rfl | exact lm_arB (by omega) | exact lm_arM (by omega)); omega)
    | ((with_reducible apply lm_sAl); (first | exact rfl | exact lm_arB (by omega) | exact lm_arM (by omega)); omega)
    | ((with_reducible apply lm_iW); decide))
      rw [h1 (i + j) (by omega), h2 i hi]
      by_cases c : 4 ≤ j
      · refine lm_geT (by omega) (by omega) c ?_
        refine lm_e197_136 ?_
        unfold lm_q197_136
        rw [lm_i2l (by omega), lm_lom, lm_lo, show Int32.ofNat j + Int32.ofInt 1 = Int32.ofNat (j + 1) from lm_oa j 1]
        refine lm_wJ (w := 16) rfl (by omega) ?_
        have ex : lm_xs w P j = w := if_neg (by omega)
        rw [ex] at e
        exact e
      · refine lm_geF (by omega) (by omega) c ?_
        refine lm_e197_136 ?_
        unfold lm_q197_136
        rw [lm_uLn hP (by omega), lm_land16, lm_lom, lm_lo, show Int32.ofNat j + Int32.ofInt 1 = Int32.ofNat (j + 1) from lm_oa j 1]
        refine lm_wJ (w := 16) rfl (by omega) ?_
        have ex : lm_xs w P j = P / 2 ^ (16 * j) % 65536 := if_pos (by omega)
        rw [ex] at e
        exact e
end LMA3
section LMA4
variable {sc : lm_H} {d : Nat} {m : lm_MI} {x : lm_H × Nat × Nat} {N T w P : Nat} {n0 : lm_ML} {V : Int32}
/-- how the outer loop goes on -/
def lm_KO (sc : lm_H) (d : Nat) (m : lm_MI) (x : lm_H × Nat × Nat) (N T w P : Nat) (n0 : lm_ML) (V : Int32) (s : Nat) : Prop := ∀ (n : lm_ML) (p : Nat → Nat), (∀ i, i < 16 → n 220 i = Int64.ofNat (p i)) → (∀ i, i < 16 → p i < 65536) → lm_V p 16 = lm_X w P ^ s → lm_f2 n0 n → lm_RA m x n0 V (lm_rn sc d lm_m197.2.2.2.2.1 (lm_reg lm_m197.2.2.2.2.2) (36, [(0, .ref 203), (1, .int (Int32.ofNat w)), (2, .long (Int64.ofNat P)), (4, .int (Int32.ofNat T)), (5, .int (Int32.ofNat N)), (6, .int (Int32.ofNat s))], []) (lm_w m n x))
theorem lm_a70 {s : Nat} {p : Nat → Nat} (hw : w < 1048576) (hP : P < 18446744073709551616) (hp : ∀ i, i < 16 → p i < 65536) (hv : lm_V p 16 = lm_X w P ^ s) (hX : lm_X w P ^ (s + 1) < 2 ^ 256) (K : lm_KO sc d m x N T w P n0 V (s + 1)) :
    ∀ k i (n : lm_ML) (l : Nat → Nat), i + k = 16 → (∀ i, i < 16 → n 219 i = Int64.ofNat (l i)) → (∀ i, i < 16 → n 220 i = Int64.ofNat (p i)) → (∀ k, k < 16 → l k ≤ (5 * i) * 68719476736) → lm_V l 16 % 2 ^ 256 = (lm_V p i * lm_X w P) % 2 ^ 256 → lm_f2 n0 n → lm_RA m x n0 V (lm_rn sc d lm_m197.2.2.2.2.1 (lm_reg lm_m197.2.2.2.2.2) (70, [(0, .ref 203), (1, .int (Int32.ofNat w)), (2, .long (Int64.ofNat P)), (4, .int (Int32.ofNat T)), (5, .int (Int32.ofNat N)), (6, .int (Int32.ofNat s)), (7, .int (Int32.ofNat i))], []) (lm_w m n x)) := by
  intro k
  induction k with
  | zero =>
    intro i n l hi h1 h2 h3 h4 h5
    have hi : i = 16 := hi
    subst hi
    obtain ⟨n', e, f⟩ := lm_a157 (sc := sc) (d := d) (m := m) (x := x) (N := N) (T := T) (s := s) (w := w) (P := P) (n0 := n0) (V := V) (l := l) (fun i hi => Nat.lt_of_le_of_lt (h3 i hi) (by decide)) (fun n p' g1 g2 g3 g4 => by
      obtain ⟨c, hc⟩ := g3
      refine K n p' g1 g2 ?_ g4
      have hlt := lm_V_lt 16 g2
      rw [← hc, Nat.add_mul_mod_self_right, Nat.mod_eq_of_lt hlt, hv, ← Nat.pow_succ, Nat.mod_eq_of_lt hX] at h4
      exact h4) 16 0 n (fun _ => 0) 0 rfl h1 (fun i hi => by omega) (fun i hi => by omega) (by decide) rfl h5
    refine ⟨n', ?_, f⟩
    refine lm_e197_70 ?_
    unfold lm_q197_70
    simp only [lm_K16, lm_K0]
    exact lm_geT (by decide) (by decide) (by decide) e
  | succ k ih =>
    intro i n l hi h1 h2 h3 h4 h5
    obtain ⟨n', e, f⟩ := lm_a80 (sc := sc) (d := d) (m := m) (x := x) (N := N) (T := T) (s := s) (w := w) (P := P) (n0 := n0) (V := V) (p := p) (B := 68719476736) (i := i) rfl (by omega) hw hP hp (fun n l g1 g2 g3 g4 g5 => ih (i + 1) n l (by omega) g1 g2 g3 g4 g5) 5 0 n l rfl h1 h2 (fun k hk => by rw [Nat.add_zero]; exact h3 k hk) (by omega) (by rw [h4]; show _ = (_ + _ * 0) % _; rw [Nat.mul_zero, Nat.add_zero]) h5
    refine ⟨n', ?_, f⟩
    refine lm_e197_70 ?_
    unfold lm_q197_70
    simp only [lm_K16, lm_K0]
    exact lm_geF (by omega) (by omega) (by omega) e
theorem lm_a46 {s : Nat} {p : Nat → Nat} (hw : w < 1048576) (hP : P < 18446744073709551616) (hp : ∀ i, i < 16 → p i < 65536) (hv : lm_V p 16 = lm_X w P ^ s) (hX : lm_X w P ^ (s + 1) < 2 ^ 256) (K : lm_KO sc d m x N T w P n0 V (s + 1)) :
    ∀ k t (n : lm_ML), t + k = 16 → (∀ i, i < t → n 219 i = Int64.ofNat 0) → (∀ i, i < 16 → n 220 i = Int64.ofNat (p i)) → lm_f2 n0 n → lm_RA m x n0 V (lm_rn sc d lm_m197.2.2.2.2.1 (lm_reg lm_m197.2.2.2.2.2) (46, [(0, .ref 203), (1, .int (Int32.ofNat w)), (2, .long (Int64.ofNat P)), (4, .int (Int32.ofNat T)), (5, .int (Int32.ofNat N)), (6, .int (Int32.ofNat s)), (7, .int (Int32.ofNat t))], []) (lm_w m n x)) := by
  intro k
  induction k with
  | zero =>
    intro t n ht h1 h2 h3
    have ht : t = 16 := ht
    subst ht
    obtain ⟨n', e, f⟩ := lm_a70 (n0 := n0) (V := V) hw hP hp hv hX K 16 0 n (fun _ => 0) rfl h1 h2 (fun k _ => Nat.zero_le _) (by rw [lm_V_zero]; simp [lm_V]) h3
    refine ⟨n', ?_, f⟩
    refine lm_e197_46 ?_
    unfold lm_q197_46
    simp only [lm_K16, lm_K0]
    exact lm_geT (by decide) (by decide) (by decide) e
  | succ k ih =>
    intro t n ht h1 h2 h3
    obtain ⟨n', e, f⟩ := ih (t + 1) (lm_u n 219 t (Int64.ofNat 0)) (by omega) (fun i hi => by
      by_cases g : i = t
      · subst g
        rw [lm_u_eq]
      · rw [lm_u_ne (fun g2 => g g2.2)]
        exact h1 i (by omega)) (fun i hi => by rw [lm_u_row (by decide)]; exact h2 i hi) (h3.u (Or.inl rfl))
    refine ⟨n', ?_, f⟩
    refine lm_e197_46 ?_
    unfold lm_q197_46
    simp only [lm_K16, lm_K1, lm_oo]
    refine lm_geF (by omega) (by omega) (by omega) ?_
    repeat (first
    | ((with_reducible apply lm_sI); exact rfl)
    | ((with_reducible apply lm_sR); exact rfl)
    | ((with_reducible apply lm_sS); exact rfl; exact rfl)
    | ((with_reducible apply lm_sL); exact rfl)
    | ((with_reducible apply lm_sP); exact rfl; exact rfl)
    | ((with_reducible apply lm_sPL); exact rfl; exact rfl)
    | ((with_reducible apply lm_sAA); exact rfl; first | exact rfl | exact lm_roO (by omega) | exact lm_roM (by omega))
    | ((with_reducible apply lm_sI); exact lm_fpL (by omega))
    | ((with_reducible apply lm_sR); exact lm_fpB (by omega))
    | ((with_reducible apply lm_sP); exact lm_fpL (by omega); exact rfl)
    | ((with_reducible apply lm_sS); exact lm_ocO (by omega); exact rfl)
    | ((with_reducible apply lm_sA); exact rfl; omega)
    | ((with_reducible apply lm_sJ); exact rfl; omega)
    | ((with_reducible apply lm_sB); (first | exact rfl | exact lm_arB (by omega) | exact lm_arM (by omega)); omega)
    | ((with_reducible apply lm_wA); exact rfl; omega)
    | ((with_reducible apply lm_wJ); exact rfl; omega)
    | ((with_reducible apply lm_wB); (first | exact rfl | exact lm_arB (by omega) | exact lm_arM (by omega)); omega)
    | ((with_reducible apply lm_sAl); (first | exact rfl | exact lm_arB (by omega) | exact lm_arM (by omega)); omega)
    | ((with_reducible apply lm_iW); decide))
    exact e
/-- what above answers -/
def lm_abv (w P T N : Nat) : Bool := decide (N * 2 ^ (64 * T) < lm_X w P ^ T)
theorem lm_a36 (hT : T ≤ 3) (hN : N < 2147483648) (hw : w < 1048576) (hP : P < 18446744073709551616) (hb : (w + 1) ^ T ≤ 2147483648) : ∀ k s, s + k = T → lm_KO sc d m x N T w P n0 (lm_z (lm_abv w P T N)) s := by
  have hXlt : lm_X w P < (w + 1) * 2 ^ 64 := by
    unfold lm_X
    rw [Nat.add_mul]
    have : (2 : Nat) ^ 64 = 18446744073709551616 := rfl
    omega
  have hT1 : lm_X w P ^ T ≤ 2147483648 * 2 ^ (64 * T) := by
    refine Nat.le_trans (Nat.pow_le_pow_left (Nat.le_of_lt hXlt) T) ?_
    rw [Nat.mul_pow, ← Nat.pow_mul]
    exact Nat.mul_le_mul_right _ hb
  have hTm : ∀ s, s ≤ T → lm_X w P ^ s < 2 ^ 256 := by
    intro s hs
    by_cases h0 : lm_X w P = 0
    · rw [h0]
      cases s with
      | zero => decide
      | succ s => rw [Nat.zero_pow (by omega)]; decide
    · refine Nat.lt_of_le_of_lt (Nat.le_trans (Nat.pow_le_pow_right (by omega) hs) hT1) ?_
      have h3 : (2 : Nat) ^ (64 * T) ≤ 2 ^ 192 := Nat.pow_le_pow_right (by decide) (by omega)
      refine Nat.lt_of_le_of_lt (Nat.mul_le_mul_left _ h3) (by decide)
  intro k
  induction k with
  | zero =>
    intro s hs n p h1 h2 h3 h4
    have hs : s = T := hs
    subst hs
    have hsp := lm_V_split (f := p) (4 * s) (16 - 4 * s)
    rw [show 4 * s + (16 - 4 * s) = 16 by omega, h3, show 16 * (4 * s) = 64 * s by omega] at hsp
    have hA := lm_V_lt (f := p) (4 * s) (fun i hi => h2 i (by omega))
    rw [show 16 * (4 * s) = 64 * s by omega] at hA
    have hq : 0 < 2 ^ (64 * s) := Nat.two_pow_pos _
    have hY : lm_V (fun i => p (4 * s + i)) (16 - 4 * s) ≤ 2147483648 := by
      have h5 : lm_V (fun i => p (4 * s + i)) (16 - 4 * s) * 2 ^ (64 * s) ≤ 2147483648 * 2 ^ (64 * s) := by omega
      exact Nat.le_of_mul_le_mul_right h5 hq
    have hs2 := lm_V_split (f := fun i => p (4 * s + i)) 2 (14 - 4 * s)
    rw [show 2 + (14 - 4 * s) = 16 - 4 * s by omega] at hs2
    have hz : lm_V (fun i => p (4 * s + (2 + i))) (14 - 4 * s) = 0 := by
      have : (2 : Nat) ^ (16 * 2) = 4294967296 := rfl
      rw [this] at hs2
      omega
    have hv2 : lm_V (fun i => p (4 * s + i)) 2 = p (4 * s) + p (4 * s + 1) * 65536 := by
      simp [lm_V]
    rw [hz, Nat.zero_mul, Nat.add_zero, hv2] at hs2
    have htop : p (4 * s) + p (4 * s + 1) * 65536 < 4294967296 := by
      have a1 := h2 (4 * s) (by omega)
      have a2 := h2 (4 * s + 1) (by omega)
      omega
    refine ⟨n, ?_, h4⟩
    refine lm_e197_36 ?_
    unfold lm_q197_36
    simp only [lm_K4, lm_K1, lm_K0, lm_om, lm_oo]
    refine lm_geT (by omega) (by omega) (by omega) ?_
    repeat (first
    | ((with_reducible apply lm_sI); exact rfl)
    | ((with_reducible apply lm_sR); exact rfl)
    | ((with_reducible apply lm_sS); exact rfl; exact rfl)
    | ((with_reducible apply lm_sL); exact rfl)
    | ((with_reducible apply lm_sP); exact rfl; exact rfl)
    | ((with_reducible apply lm_sPL); exact rfl; exact rfl)
    | ((with_reducible apply lm_sAA); exact rfl; first | exact rfl | exact lm_roO (by omega) | exact lm_roM (by omega))
    | ((with_reducible apply lm_sI); exact lm_fpL (by omega))
    | ((with_reducible apply lm_sR); exact lm_fpB (by omega))
    | ((with_reducible apply lm_sP); exact lm_fpL (by omega); exact rfl)
    | ((with_reducible apply lm_sS); exact lm_ocO (by omega); exact rfl)
    | ((with_reducible apply lm_sA); exact rfl; omega)
    | ((with_reducible apply lm_sJ); exact rfl; omega)
    | ((with_reducible apply lm_sB); (first | exact rfl | exact lm_arB (by omega) | exact lm_arM (by omega)); omega)
    | ((with_reducible apply lm_wA); exact rfl; omega)
    | ((with_reducible apply lm_wJ); exact rfl; omega)
    | ((with_reducible apply lm_wB); (first | exact rfl | exact lm_arB (by omega) | exact lm_arM (by omega)); omega)
    | ((with_reducible apply lm_sAl); (first | exact rfl | exact lm_arB (by omega) | exact lm_arM (by omega)); omega)
    | ((with_reducible apply lm_iW); decide))
    rw [h1 (4 * s) (by omega), h1 (4 * s + 1) (by omega)]
    have esh : Int64.ofNat (p (4 * s + 1)) <<< ((Int32.toInt64 (Int32.ofInt 16)) &&& 63) = Int64.ofNat (p (4 * s + 1) * 65536) := lm_lsh16 _
    rw [esh, lm_lo]
    refine (lm_a240 (sc := sc) (d := d) (m := m) (x := x) (p := p) hT hN htop h1 h2 (4 * s) 0 false (by omega)).trans ?_
    have eb : (decide (N < p (4 * s) + p (4 * s + 1) * 65536) || (decide (p (4 * s) + p (4 * s + 1) * 65536 = N) && (false || lm_an p (4 * s) 0))) = lm_abv w P s N := by
      unfold lm_abv
      rw [hsp, hs2, Bool.false_or]
      generalize p (4 * s) + p (4 * s + 1) * 65536 = Y
      have han : lm_an p (4 * s) 0 = decide (lm_V p (4 * s) ≠ 0) := by
        by_cases c : lm_V p (4 * s) = 0
        · rw [decide_eq_false (fun g => g c)]
          cases h : lm_an p (4 * s) 0 with
          | false => rfl
          | true =>
            obtain ⟨i, _, b, e⟩ := (lm_an_iff _ _).mp h
            exact absurd ((lm_V_nz _).mp c i (by omega)) e
        · rw [decide_eq_true c]
          refine (lm_an_iff _ _).mpr ?_
          refine Classical.byContradiction fun g => c ((lm_V_nz _).mpr fun i hi => ?_)
          refine Classical.byContradiction fun g2 => g ⟨i, by omega, by omega, g2⟩
      rw [han]
      generalize lm_V p (4 * s) = A at *
      generalize 2 ^ (64 * s) = Q at *
      rcases Nat.lt_trichotomy N Y with c | c | c
      · rw [decide_eq_true c, Bool.true_or, decide_eq_true]
        have : (N + 1) * Q ≤ Y * Q := Nat.mul_le_mul_right _ c
        rw [Nat.add_mul] at this
        omega
      · subst c
        rw [decide_eq_false (Nat.lt_irrefl N), Bool.false_or, decide_eq_true rfl, Bool.true_and]
        by_cases c : A = 0
        · rw [decide_eq_false (fun g => g c), decide_eq_false]
          omega
        · rw [decide_eq_true c, decide_eq_true]
          omega
      · rw [decide_eq_false (by omega), Bool.false_or, decide_eq_false (show ¬ Y = N by omega), Bool.false_and, decide_eq_false]
        have : (Y + 1) * Q ≤ N * Q := Nat.mul_le_mul_right _ c
        rw [Nat.add_mul] at this
        omega
    rw [eb]
  | succ k ih =>
    intro s hs n p h1 h2 h3 h4
    obtain ⟨n', e, f⟩ := lm_a46 (n0 := n0) (V := lm_z (lm_abv w P T N)) hw hP h2 h3 (hTm (s + 1) (by omega)) (ih (s + 1) (by omega)) 16 0 n rfl (fun i hi => by omega) h1 h4
    refine ⟨n', ?_, f⟩
    refine lm_e197_36 ?_
    unfold lm_q197_36
    simp only [lm_K4, lm_K1, lm_K0, lm_om, lm_oo]
    exact lm_geF (by omega) (by omega) (by omega) e
end LMA4
