/-! ===== numbers that are natural ===== -/
theorem lm_ti {a : Nat} (h : a < 2147483648) : (Int32.ofNat a).toInt = a := by
  rw [Int32.toInt_ofNat']
  have e : Int32.size = 4294967296 := rfl
  exact Int.bmod_eq_of_le (by rw [e]; omega) (by rw [e]; omega)
theorem lm_tl {a : Nat} (h : a < 9223372036854775808) : (Int64.ofNat a).toInt = a := by
  rw [Int64.toInt_ofNat']
  have e : Int64.size = 18446744073709551616 := rfl
  exact Int.bmod_eq_of_le (by rw [e]; omega) (by rw [e]; omega)
theorem lm_om (a b : Nat) : Int32.ofNat a * Int32.ofNat b = Int32.ofNat (a * b) := (Int32.ofNat_mul a b).symm
theorem lm_osu {a b : Nat} (h : b ≤ a) : Int32.ofNat a - Int32.ofNat b = Int32.ofNat (a - b) := by
  have e : Int32.ofNat a = Int32.ofNat (a - b) + Int32.ofNat b := by rw [lm_oo, Nat.sub_add_cancel h]
  rw [e, Int32.add_sub_cancel]
theorem lm_od {a b : Nat} (ha : a < 2147483648) (hb : b < 2147483648) : Int32.ofNat a / Int32.ofNat b = Int32.ofNat (a / b) := by
  apply Int32.toInt_inj.mp
  have h1 : a / b ≤ a := Nat.div_le_self a b
  rw [Int32.toInt_div_of_ne_left, lm_ti ha, lm_ti hb, lm_ti (by omega)]
  · rfl
  · intro e
    have := congrArg Int32.toInt e
    rw [lm_ti ha] at this
    have : (Int32.minValue).toInt = -2147483648 := rfl
    omega
theorem lm_orm {a b : Nat} (ha : a < 2147483648) (hb : b < 2147483648) : lm_rem (Int32.ofNat a) (Int32.ofNat b) = Int32.ofNat (a % b) := by
  unfold lm_rem
  have h := Nat.div_add_mod a b
  rw [lm_od ha hb, lm_om, lm_osu (by rw [Nat.mul_comm]; omega), Nat.mul_comm (a / b)]
  congr 1
  omega
theorem lm_lo (a b : Nat) : Int64.ofNat a + Int64.ofNat b = Int64.ofNat (a + b) := (Int64.ofNat_add a b).symm
theorem lm_lom (a b : Nat) : Int64.ofNat a * Int64.ofNat b = Int64.ofNat (a * b) := (Int64.ofNat_mul a b).symm
theorem lm_lsu {a b : Nat} (h : b ≤ a) : Int64.ofNat a - Int64.ofNat b = Int64.ofNat (a - b) := by
  have e : Int64.ofNat a = Int64.ofNat (a - b) + Int64.ofNat b := by rw [lm_lo, Nat.sub_add_cancel h]
  rw [e, Int64.add_sub_cancel]
theorem lm_ld {a b : Nat} (ha : a < 9223372036854775808) (hb : b < 9223372036854775808) : Int64.ofNat a / Int64.ofNat b = Int64.ofNat (a / b) := by
  apply Int64.toInt_inj.mp
  have h1 : a / b ≤ a := Nat.div_le_self a b
  rw [Int64.toInt_div_of_ne_left, lm_tl ha, lm_tl hb, lm_tl (by omega)]
  · rfl
  · intro e
    have := congrArg Int64.toInt e
    rw [lm_tl ha] at this
    have : (Int64.minValue).toInt = -9223372036854775808 := rfl
    omega
theorem lm_lrm {a b : Nat} (ha : a < 9223372036854775808) (hb : b < 9223372036854775808) : lm_remL (Int64.ofNat a) (Int64.ofNat b) = Int64.ofNat (a % b) := by
  unfold lm_remL
  have h := Nat.div_add_mod a b
  rw [lm_ld ha hb, lm_lom, lm_lsu (by rw [Nat.mul_comm]; omega), Nat.mul_comm (a / b)]
  congr 1
  omega
theorem lm_l2i (a : Nat) : (Int64.ofNat a).toInt32 = Int32.ofNat a := by
  apply Int32.toBitVec_inj.mp
  simp
theorem lm_i2l {a : Nat} (h : a < 2147483648) : (Int32.ofNat a).toInt64 = Int64.ofNat a := by
  apply Int64.toInt_inj.mp
  rw [Int32.toInt_toInt64, lm_ti h, lm_tl (by omega)]
