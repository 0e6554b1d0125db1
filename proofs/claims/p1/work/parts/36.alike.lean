/-! ===== loops over bytes ===== -/
theorem lm_oo (a b : Nat) : Int32.ofNat a + Int32.ofNat b = Int32.ofNat (a + b) := (Int32.ofNat_add a b).symm
theorem lm_le32 {a b : Nat} (ha : a ≤ 2000000) (hb : b ≤ 2000000) : Int32.ofNat a ≤ Int32.ofNat b ↔ a ≤ b := Int32.ofNat_le_ofNat (by omega) (by omega)
theorem lm_lt32 {a b : Nat} (ha : a ≤ 2000000) (hb : b ≤ 2000000) : Int32.ofNat a < Int32.ofNat b ↔ a < b := Int32.ofNat_lt_ofNat (by omega) (by omega)
/-- n elements of xs from a on are those of ys from b on -/
def lm_alk (xs ys : List Int32) (a b n : Nat) : Bool := (List.range n).all fun i => xs.getD (a + i) 0 == ys.getD (b + i) 0
theorem lm_alk_succ (xs ys : List Int32) (a b n : Nat) : lm_alk xs ys a b (n + 1) = (xs.getD a 0 == ys.getD b 0 && lm_alk xs ys (a + 1) (b + 1) n) := by
  unfold lm_alk
  rw [List.range_succ_eq_map, List.all_cons, List.all_map]
  congr 1
  congr 1
  funext i
  show (xs.getD (a + (i + 1)) 0 == ys.getD (b + (i + 1)) 0) = _
  rw [show a + (i + 1) = a + 1 + i by omega, show b + (i + 1) = b + 1 + i by omega]
def lm_z (b : Bool) : Int32 := cond b 1 0
theorem lm_t136_3 {sc h : lm_H} {s : Nat × Nat} {d p q a b n : Nat} {xs ys : List Int32} (hp : lm_cell sc h p = some (.inl (1, xs))) (hq : lm_cell sc h q = some (.inl (1, ys))) (ha : a + n ≤ xs.length) (hb : b + n ≤ ys.length) (hx : xs.length ≤ 1000000) (hy : ys.length ≤ 1000000) :
    ∀ (k i : Nat), i + k = n → lm_rn sc d lm_m136.2.2.2.2.1 (lm_reg lm_m136.2.2.2.2.2) (3, [(0, .ref p), (1, .int (Int32.ofNat a)), (2, .ref q), (3, .int (Int32.ofNat b)), (4, .int (Int32.ofNat n)), (5, .int (Int32.ofNat i))], []) (h, s) = some (.ok (some (.int (lm_z (lm_alk xs ys (a + i) (b + i) k)))), (h, s)) := by
  intro k
  induction k with
  | zero =>
    intro i hi
    refine lm_e136_3 ?_
    unfold lm_q136_3
    rw [lm_if_t (show lm_cmp .ge (Int32.ofNat i) (Int32.ofNat n) from (lm_le32 (by omega) (by omega)).mpr (by omega)), lm_when_t (by decide)]
    rfl
  | succ k ih =>
    intro i hi
    refine lm_e136_3 ?_
    unfold lm_q136_3
    rw [lm_if_f (show ¬ lm_cmp .ge (Int32.ofNat i) (Int32.ofNat n) from fun h9 => by have := (lm_le32 (by omega) (by omega)).mp h9; omega)]
    rw [lm_oo, lm_oo, lm_bd_ok (lm_bald_ok hp (by omega) hx), lm_bd_ok (lm_bald_ok hq (by omega) hy), lm_alk_succ]
    by_cases e : xs.getD (a + i) 0 = ys.getD (b + i) 0
    · rw [lm_if_t (show lm_cmp .eq _ _ from e), show Int32.ofNat i + Int32.ofInt 1 = Int32.ofNat (i + 1) from lm_oa i 1, ih (i + 1) (by omega), e]
      simp [Nat.add_assoc]
    · rw [lm_if_f (show ¬ lm_cmp .eq _ _ from e), lm_when_t (by decide)]
      simp only [beq_eq_false_iff_ne.mpr e, Bool.false_and]
      rfl
/-- Bits.alike -/
theorem lm_t136 {sc h : lm_H} {s : Nat × Nat} {d p q a b n : Nat} {xs ys : List Int32} (hp : lm_cell sc h p = some (.inl (1, xs))) (hq : lm_cell sc h q = some (.inl (1, ys))) (ha : a + n ≤ xs.length) (hb : b + n ≤ ys.length) (hx : xs.length ≤ 1000000) (hy : ys.length ≤ 1000000) :
    lm_cal sc (d + 1) 136 [.ref p, .int (Int32.ofNat a), .ref q, .int (Int32.ofNat b), .int (Int32.ofNat n)] (h, s) = some (.ok (some (.int (lm_z (lm_alk xs ys a b n)))), (h, s)) := by
  refine lm_cal_of (Y := lm_m136) rfl rfl (lm_e136_0 ?_)
  unfold lm_q136_0
  exact lm_t136_3 hp hq ha hb hx hy n 0 (by omega)
