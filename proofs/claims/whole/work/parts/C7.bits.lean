/-! ===== bits of numbers ===== -/
/-- a byte -/
def lm_yb (v : Int32) : Nat := v.toBitVec.toNat % 256
theorem lm_yb_lt (v : Int32) : lm_yb v < 256 := Nat.mod_lt _ (by decide)
theorem lm_smod : ∀ b, b < 32 → ((Int32.ofNat b &&& 31).toBitVec.smod 32).toNat = b := by decide
theorem lm_tsl (v : Int32) {b : Nat} (hb : b < 32) : (v <<< (Int32.ofNat b &&& 31)).toBitVec = v.toBitVec <<< b := by
  rw [Int32.toBitVec_shiftLeft, BitVec.shiftLeft_eq', lm_smod b hb]
theorem lm_tsr (v : Int32) {b : Nat} (hb : b < 32) : (v >>> (Int32.ofNat b &&& 31)).toBitVec = v.toBitVec.sshiftRight b := by
  rw [Int32.toBitVec_shiftRight, BitVec.sshiftRight_eq', lm_smod b hb]
theorem lm_tn {a : Nat} (h : a < 4294967296) : (Int32.ofNat a).toBitVec.toNat = a := by
  rw [Int32.toBitVec_ofNat', BitVec.toNat_ofNat]
  exact Nat.mod_eq_of_lt h
theorem lm_32n {u : Int32} {a : Nat} (h : u.toBitVec.toNat = a) : u = Int32.ofNat a := by
  apply Int32.toBitVec_inj.mp
  apply BitVec.eq_of_toNat_eq
  rw [h, lm_tn]
  rw [← h]
  exact u.toBitVec.isLt
/-- a + c 2^b -/
theorem lm_orsh {a b c : Nat} (ha : a < 2 ^ b) (hb : b < 32) (hc : a + c * 2 ^ b < 4294967296) : Int32.ofNat a ||| (Int32.ofNat c <<< (Int32.ofNat b &&& 31)) = Int32.ofNat (a + c * 2 ^ b) := by
  have h1 : c ≤ c * 2 ^ b := Nat.le_mul_of_pos_right c (Nat.two_pow_pos b)
  apply lm_32n
  rw [Int32.toBitVec_or, BitVec.toNat_or, lm_tsl _ hb, BitVec.toNat_shiftLeft, lm_tn (by omega), lm_tn (by omega), Nat.shiftLeft_eq, Nat.mod_eq_of_lt (by omega), Nat.or_comm, ← Nat.shiftLeft_eq, ← Nat.shiftLeft_add_eq_or_of_lt ha, Nat.shiftLeft_eq, Nat.add_comm]
theorem lm_usn {a k : Nat} (ha : a < 4294967296) (hk : k < 32) : lm_us (Int32.ofNat a) (Int32.ofNat k) = Int32.ofNat (a / 2 ^ k) := by
  unfold lm_us
  apply lm_32n
  have e : ((Int32.ofNat k).toUInt32 &&& Int32.toUInt32 31).toNat = k := by
    rw [UInt32.toNat_and]
    show (BitVec.ofNat 32 k).toNat &&& 31 = k
    rw [BitVec.toNat_ofNat, Nat.mod_eq_of_lt (by omega), show (31 : Nat) = 2 ^ 5 - 1 from rfl, Nat.and_two_pow_sub_one_eq_mod]
    omega
  show ((Int32.ofNat a).toUInt32 >>> ((Int32.ofNat k).toUInt32 &&& Int32.toUInt32 31)).toNat = _
  rw [UInt32.toNat_shiftRight, e, Nat.mod_eq_of_lt hk, Nat.shiftRight_eq_div_pow]
  show (BitVec.ofNat 32 a).toNat / 2 ^ k = _
  rw [BitVec.toNat_ofNat, Nat.mod_eq_of_lt ha]
theorem lm_andm {a k : Nat} (ha : a < 4294967296) (hk : k < 32) : Int32.ofNat a &&& Int32.ofNat (2 ^ k - 1) = Int32.ofNat (a % 2 ^ k) := by
  have h1 : 2 ^ k ≤ 2 ^ 31 := Nat.pow_le_pow_right (by decide) (by omega)
  apply lm_32n
  rw [Int32.toBitVec_and, BitVec.toNat_and, lm_tn ha, lm_tn (by omega), Nat.and_two_pow_sub_one_eq_mod]
theorem lm_msk {k : Nat} (hk : k < 31) : (Int32.ofInt 1 <<< (Int32.ofNat k &&& 31)) - Int32.ofInt 1 = Int32.ofNat (2 ^ k - 1) := by
  have h1 := Nat.two_pow_pos k
  have h2 : 2 ^ k ≤ 2 ^ 30 := Nat.pow_le_pow_right (by decide) (by omega)
  have e : Int32.ofInt 1 <<< (Int32.ofNat k &&& 31) = Int32.ofNat (2 ^ k) := by
    apply lm_32n
    rw [lm_tsl _ (by omega), lm_K1, BitVec.toNat_shiftLeft, lm_tn (by decide), Nat.shiftLeft_eq, Nat.one_mul]
    exact Nat.mod_eq_of_lt (by omega)
  rw [e, lm_K1, lm_osu h1]
theorem lm_b8_n (v : Int32) : (lm_b8 v).toBitVec.toNat % 256 = lm_yb v := by
  have h := congrArg BitVec.toNat (lm_b8_w v)
  rw [BitVec.toNat_setWidth, BitVec.toNat_setWidth] at h
  exact h
theorem lm_yb_b8 (v : Int32) : lm_yb (lm_b8 v) = lm_yb v := lm_b8_n v
theorem lm_b8u (v : Int32) : lm_b8 v &&& Int32.ofInt 255 = Int32.ofNat (lm_yb v) := by
  apply lm_32n
  rw [Int32.toBitVec_and, BitVec.toNat_and, lm_K255, lm_tn (by decide), show (255 : Nat) = 2 ^ 8 - 1 from rfl, Nat.and_two_pow_sub_one_eq_mod]
  exact lm_b8_n v
theorem lm_b8_eq {v w : Int32} (h : lm_yb v = lm_yb w) : lm_b8 v = lm_b8 w := by
  have e : v.toInt8 = w.toInt8 := by
    apply Int8.toBitVec_inj.mp
    show v.toBitVec.signExtend 8 = w.toBitVec.signExtend 8
    rw [BitVec.signExtend_eq_setWidth_of_le _ (by decide), BitVec.signExtend_eq_setWidth_of_le _ (by decide)]
    apply BitVec.eq_of_toNat_eq
    rw [BitVec.toNat_setWidth, BitVec.toNat_setWidth]
    exact h
  unfold lm_b8
  rw [e]
theorem lm_b8_ne {v w : Int32} (h : lm_b8 v = lm_b8 w) : lm_yb v = lm_yb w := by rw [← lm_yb_b8 v, h, lm_yb_b8]
theorem lm_yb_n {a : Nat} (h : a < 4294967296) : lm_yb (Int32.ofNat a) = a % 256 := by
  unfold lm_yb
  rw [lm_tn h]
/-- one bit -/
theorem lm_bit1 (u : Int32) {r : Nat} (hr : r < 32) : (u >>> (Int32.ofNat r &&& 31)) &&& Int32.ofInt 1 = Int32.ofNat (u.toBitVec.getLsbD r).toNat := by
  apply Int32.toBitVec_inj.mp
  rw [Int32.toBitVec_and, lm_tsr _ hr]
  have e1 : (Int32.ofInt 1).toBitVec = 1#32 := rfl
  have e0 : ∀ b : Bool, (Int32.ofNat b.toNat).toBitVec = (if b = true then 1#32 else 0#32) := by decide
  rw [e1, e0]
  refine BitVec.eq_of_getLsbD_eq fun i hi => ?_
  rw [BitVec.getLsbD_and, BitVec.getLsbD_sshiftRight]
  have e : (1#32).getLsbD i = decide (i = 0) := by
    rcases Nat.eq_zero_or_pos i with h | h
    · subst h; rfl
    · rw [decide_eq_false (by omega)]
      rw [BitVec.getLsbD_one]
      simp
      omega
  rw [e]
  rcases Nat.eq_zero_or_pos i with h | h
  · subst h
    rw [decide_eq_true rfl, Bool.and_true, Nat.add_zero]
    simp only [show ¬ 32 ≤ 0 from by decide, decide_false, Bool.not_false, Bool.true_and, hr, if_true]
    cases u.toBitVec.getLsbD r <;> rfl
  · rw [decide_eq_false (show ¬ i = 0 by omega), Bool.and_false]
    cases u.toBitVec.getLsbD r
    · rw [if_neg (by decide), BitVec.getLsbD_zero]
    · show false = (1#32).getLsbD i
      rw [e, decide_eq_false (by omega)]
theorem lm_yb_tb (v : Int32) {r : Nat} (hr : r < 8) : (lm_b8 v).toBitVec.getLsbD r = (lm_yb v).testBit r := by
  rw [← lm_b8_n, show (256 : Nat) = 2 ^ 8 from rfl, Nat.testBit_mod_two_pow, decide_eq_true hr, Bool.true_and, BitVec.testBit_toNat]
/-! bits read as a number -/
def ln_bv (s : Nat → Bool) (a : Nat) : Nat → Nat
  | 0 => 0
  | d + 1 => ln_bv s a d + (s (a + d)).toNat * 2 ^ d
section LMBV
variable {s s' : Nat → Bool} {a b d e : Nat}
theorem lm_bv_lt : ln_bv s a d < 2 ^ d := by
  induction d with
  | zero => exact Nat.one_pos
  | succ d ih =>
    show ln_bv s a d + (s (a + d)).toNat * 2 ^ d < 2 ^ (d + 1)
    rw [Nat.pow_succ]
    cases s (a + d)
    · show _ + 0 * 2 ^ d < _
      omega
    · show _ + 1 * 2 ^ d < _
      omega
theorem lm_bv_add : ln_bv s a (b + d) = ln_bv s a b + ln_bv s (a + b) d * 2 ^ b := by
  induction d with
  | zero => show ln_bv s a b = ln_bv s a b + 0 * 2 ^ b; rw [Nat.zero_mul, Nat.add_zero]
  | succ d ih =>
    show ln_bv s a (b + d) + (s (a + (b + d))).toNat * 2 ^ (b + d) = ln_bv s a b + (ln_bv s (a + b) d + (s (a + b + d)).toNat * 2 ^ d) * 2 ^ b
    rw [ih, Nat.add_mul, Nat.mul_assoc, ← Nat.pow_add, Nat.add_comm d b, Nat.add_assoc a b d, Nat.add_assoc]
theorem lm_bv_ext (h : ∀ t, t < d → s (a + t) = s' (b + t)) : ln_bv s a d = ln_bv s' b d := by
  induction d with
  | zero => rfl
  | succ d ih =>
    show ln_bv s a d + (s (a + d)).toNat * 2 ^ d = ln_bv s' b d + (s' (b + d)).toNat * 2 ^ d
    rw [ih fun t ht => h t (by omega), h d (by omega)]
theorem lm_bv_mod : ln_bv s a (b + d) % 2 ^ b = ln_bv s a b := by
  rw [lm_bv_add, Nat.add_mul_mod_self_right]
  exact Nat.mod_eq_of_lt lm_bv_lt
theorem lm_bv_div : ln_bv s a (b + d) / 2 ^ b = ln_bv s (a + b) d := by
  rw [lm_bv_add, Nat.add_mul_div_right _ _ (Nat.two_pow_pos b), Nat.div_eq_of_lt lm_bv_lt, Nat.zero_add]
theorem lm_bv_tb (x : Nat) : ln_bv (fun t => x.testBit t) 0 d = x % 2 ^ d := by
  induction d with
  | zero => show 0 = x % 1; omega
  | succ d ih =>
    show ln_bv (fun t => x.testBit t) 0 d + (x.testBit (0 + d)).toNat * 2 ^ d = _
    rw [ih, Nat.zero_add, Nat.mod_pow_succ, Nat.testBit_eq_decide_div_mod_eq, Nat.mul_comm (2 ^ d)]
    rcases (by omega : x / 2 ^ d % 2 = 0 ∨ x / 2 ^ d % 2 = 1) with h | h
    · rw [h]; rfl
    · rw [h]; rfl
theorem lm_bv_inj (h : ln_bv s a d = ln_bv s' b d) : ∀ t, t < d → s (a + t) = s' (b + t) := by
  induction d with
  | zero => intro t ht; exact absurd ht (by omega)
  | succ d ih =>
    have h1 := congrArg (· % 2 ^ d) h
    have h2 := congrArg (· / 2 ^ d) h
    simp only [lm_bv_mod, lm_bv_div] at h1 h2
    intro t ht
    by_cases c : t < d
    · exact ih h1 t c
    · have e : t = d := by omega
      subst e
      have h3 : 0 + (s (a + t + 0)).toNat * 2 ^ 0 = 0 + (s' (b + t + 0)).toNat * 2 ^ 0 := h2
      simp only [Nat.add_zero, Nat.pow_zero, Nat.mul_one, Nat.zero_add] at h3
      revert h3
      cases s (a + t) <;> cases s' (b + t) <;> decide
end LMBV
/-- the bits of bytes -/
def ln_bt (f : Nat → Int32) (t : Nat) : Bool := (lm_yb (f (t / 8))).testBit (t % 8)
theorem lm_bv_yb (f : Nat → Int32) (j : Nat) : ln_bv (ln_bt f) (8 * j) 8 = lm_yb (f j) := by
  rw [← Nat.mod_eq_of_lt (lm_yb_lt (f j)), show (256 : Nat) = 2 ^ 8 from rfl, ← lm_bv_tb]
  refine lm_bv_ext fun t ht => ?_
  unfold ln_bt
  rw [show (8 * j + t) / 8 = j by omega, show (8 * j + t) % 8 = t by omega, Nat.zero_add]
theorem lm_bt_yb {f g : Nat → Int32} {j : Nat} (h : ∀ t, t < 8 → ln_bt f (8 * j + t) = ln_bt g (8 * j + t)) : lm_yb (f j) = lm_yb (g j) := by
  rw [← lm_bv_yb f j, ← lm_bv_yb g j]
  exact lm_bv_ext h
/-- numbers of d bits one behind another -/
def lm_ts (F : Nat → Nat) (d : Nat) (t : Nat) : Bool := (F (t / d)).testBit (t % d)
theorem lm_bv_ts {F : Nat → Nat} {d i : Nat} (hd : 0 < d) (h : F i < 2 ^ d) : ln_bv (lm_ts F d) (i * d) d = F i := by
  conv => rhs; rw [← Nat.mod_eq_of_lt h, ← lm_bv_tb]
  refine lm_bv_ext fun t ht => ?_
  unfold lm_ts
  rw [Nat.add_comm, Nat.add_mul_div_right _ _ hd, Nat.div_eq_of_lt ht, Nat.zero_add, Nat.add_mul_mod_self_right, Nat.mod_eq_of_lt ht, Nat.zero_add]
