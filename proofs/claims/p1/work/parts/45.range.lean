/-! ===== numbers in a range ===== -/
theorem lm_nat_of {v : Int32} {n : Nat} (hn : n ≤ 2000000) (h0 : (0 : Int32) ≤ v) (h1 : v ≤ Int32.ofNat n) : ∃ i, i ≤ n ∧ v = Int32.ofNat i := by
  have e : Int32.ofNat v.toNatClampNeg = v := Int32.ofNat_toNatClampNeg v h0
  refine ⟨v.toNatClampNeg, ?_, e.symm⟩
  have h2 : v.toInt ≤ (Int32.ofNat n).toInt := Int32.le_iff_toInt_le.mp h1
  have h3 : (Int32.ofNat n).toInt = n := by
    rw [Int32.toInt_ofNat']
    have e : Int32.size = 4294967296 := rfl
    exact Int.bmod_eq_of_le (by rw [e]; omega) (by rw [e]; omega)
  have h4 : (0 : Int) ≤ v.toInt := Int32.le_iff_toInt_le.mp h0
  show v.toInt.toNat ≤ n
  omega
/-- in range or not -/
theorem lm_range (v : Int32) {n : Nat} (hn : n ≤ 2000000) : (∃ i, i ≤ n ∧ v = Int32.ofNat i) ∨ ¬ ((0 : Int32) ≤ v ∧ v ≤ Int32.ofNat n) := by
  by_cases h : (0 : Int32) ≤ v ∧ v ≤ Int32.ofNat n
  · exact Or.inl (lm_nat_of hn h.1 h.2)
  · exact Or.inr h
theorem lm_in_range {i n : Nat} (hi : i ≤ n) (hn : n ≤ 2000000) : (0 : Int32) ≤ Int32.ofNat i ∧ Int32.ofNat i ≤ Int32.ofNat n :=
  ⟨(lm_le32 (a := 0) (by omega) (by omega)).mpr (by omega), (lm_le32 (by omega) (by omega)).mpr hi⟩
/-- checkRange with natural bounds -/
theorem lm_t132n {sc : lm_H} {σ : lm_S} {d i n : Nat} (hi : i ≤ n) (hn : n ≤ 2000000) : lm_cal sc (d + 1) 132 [.int (Int32.ofNat i), .int (Int32.ofInt 0), .int (Int32.ofInt n)] σ = some (.ok none, σ) := by
  have h := lm_in_range hi hn
  rw [lm_ofI]
  exact lm_t132 h.1 h.2
/-- in with natural bounds -/
theorem lm_t52n {sc : lm_H} {σ : lm_S} {d i n : Nat} (hi : i ≤ n) (hn : n ≤ 2000000) : lm_cal sc (d + 1) 52 [.int (Int32.ofNat i), .int (Int32.ofInt 0), .int (Int32.ofInt n)] σ = some (.ok (some (.int (lm_z true))), σ) := by
  have h := lm_in_range hi hn
  rw [lm_ofI]
  have h9 := lm_t52 (sc := sc) (d := d) σ (Int32.ofNat i) (Int32.ofInt 0) (Int32.ofNat n)
  rw [decide_eq_true (show Int32.ofInt 0 ≤ Int32.ofNat i from h.1), decide_eq_true h.2] at h9
  exact h9
theorem lm_t52f {sc : lm_H} {σ : lm_S} {d n : Nat} {v : Int32} (h : ¬ ((0 : Int32) ≤ v ∧ v ≤ Int32.ofNat n)) : lm_cal sc (d + 1) 52 [.int v, .int (Int32.ofInt 0), .int (Int32.ofInt n)] σ = some (.ok (some (.int (lm_z false))), σ) := by
  rw [lm_ofI]
  have h9 := lm_t52 (sc := sc) (d := d) σ v (Int32.ofInt 0) (Int32.ofNat n)
  have e : (decide (Int32.ofInt 0 ≤ v) && decide (v ≤ Int32.ofNat n)) = false := by
    rw [Bool.and_eq_false_iff, decide_eq_false_iff_not, decide_eq_false_iff_not]
    by_cases h1 : Int32.ofInt 0 ≤ v
    · exact Or.inr fun h2 => h ⟨h1, h2⟩
    · exact Or.inl h1
  rw [e] at h9
  exact h9
