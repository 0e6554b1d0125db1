section LMMP
variable {sc h : lm_H} {s : Nat × Nat} {d m p q a b n : Nat} {xs ys : List Int32}
theorem lm_alk_last (xs ys : List Int32) (a b n : Nat) : lm_alk xs ys a b (n + 1) = (lm_alk xs ys a b n && (xs.getD (a + n) 0 == ys.getD (b + n) 0)) := by
  unfold lm_alk
  rw [List.range_succ, List.all_append, List.all_cons, List.all_nil, Bool.and_true]
theorem lm_z01 (b : Bool) : lm_z b = 0 ∨ lm_z b = 1 := by cases b <;> decide
theorem lm_t80_6 (hA : lm_cell sc h p = some (.inl (1, xs))) (hB : lm_cell sc h q = some (.inl (1, ys))) (ha : a + n ≤ xs.length) (hb : b + n ≤ ys.length) (hx : xs.length ≤ 1000000) (hy : ys.length ≤ 1000000) :
    ∀ (k i : Nat), i + k = n → lm_rn sc d lm_m80.2.2.2.2.1 (lm_reg lm_m80.2.2.2.2.2) (6, [(0, .ref p), (1, .int (Int32.ofNat a)), (2, .ref q), (3, .int (Int32.ofNat b)), (4, .int (Int32.ofNat n)), (5, .int (lm_z (lm_alk xs ys a b i))), (6, .int (Int32.ofNat i))], []) (h, s) = some (.ok (some (.int (lm_z (lm_alk xs ys a b n)))), (h, s)) := by
  intro k
  induction k with
  | zero =>
    intro i hi
    refine lm_e80_6 ?_
    unfold lm_q80_6
    rw [lm_if_t (show lm_cmp .ge (Int32.ofNat i) (Int32.ofNat n) from (lm_le32 (by omega) (by omega)).mpr (by omega)), lm_when_t (lm_z01 _), show i = n by omega]
    rfl
  | succ k ih =>
    intro i hi
    refine lm_e80_6 ?_
    unfold lm_q80_6
    rw [lm_if_f (show ¬ lm_cmp .ge (Int32.ofNat i) (Int32.ofNat n) from fun h9 => by have := (lm_le32 (by omega) (by omega)).mp h9; omega)]
    rw [lm_oo, lm_oo, lm_bd_ok (lm_bald_ok hA (by omega) hx), lm_bd_ok (lm_bald_ok hB (by omega) hy)]
    have key := ih (i + 1) (by omega)
    rw [lm_alk_last] at key
    by_cases e : xs.getD (a + i) 0 = ys.getD (b + i) 0
    · rw [lm_if_t (show lm_cmp .eq _ _ from e)]
      refine lm_e80_31 ?_
      unfold lm_q80_31
      rw [show Int32.ofNat i + Int32.ofInt 1 = Int32.ofNat (i + 1) from lm_oa i 1]
      rw [e, beq_self_eq_true, Bool.and_true] at key
      exact key
    · rw [lm_if_f (show ¬ lm_cmp .eq _ _ from e)]
      refine lm_e80_31 ?_
      unfold lm_q80_31
      rw [show Int32.ofNat i + Int32.ofInt 1 = Int32.ofNat (i + 1) from lm_oa i 1]
      rw [beq_eq_false_iff_ne.mpr e, Bool.and_false] at key
      exact key
/-- the reference's alike -/
theorem lm_t80 (hA : lm_cell sc h p = some (.inl (1, xs))) (hB : lm_cell sc h q = some (.inl (1, ys))) (ha : a + n ≤ xs.length) (hb : b + n ≤ ys.length) (hx : xs.length ≤ 1000000) (hy : ys.length ≤ 1000000) :
    lm_cal sc (d + 1) 80 [.ref p, .int (Int32.ofNat a), .ref q, .int (Int32.ofNat b), .int (Int32.ofNat n)] (h, s) = some (.ok (some (.int (lm_z (lm_alk xs ys a b n)))), (h, s)) := by
  refine lm_cal_of (Y := lm_m80) rfl rfl (lm_e80_0 ?_)
  unfold lm_q80_0
  exact lm_t80_6 hA hB ha hb hx hy n 0 (by omega)
/-- the reference's word: four bytes, the highest first, at the tape's end -/
theorem lm_t50 {v : Int32} (hK : lm_vK h m = some 11) (h0 : lm_vF h m 0 = some (.ref q)) (h3 : lm_vF h m 3 = some (.int (Int32.ofNat a))) (hA : lm_vA h q 1 = some xs) (hm : m < lm_B) (hq : q < lm_B) (ha : a + 4 ≤ xs.length) (hx : xs.length ≤ 1000000) :
    lm_cal sc (d + 1) 50 [.ref m, .int v] (h, s) = some (.ok none, (lm_pf (lm_pA h q 1 (lm_pi v xs a)) m 3 (.int (Int32.ofNat (a + 4))), s)) := by
  refine lm_cal_of (Y := lm_m50) rfl rfl (lm_e50_0 ?_)
  unfold lm_q50_0
  have step : ∀ (i : Nat) (ys : List Int32) (h' : lm_H) (r : Except Nat lm_R × lm_S), i < 4 → ys.length = xs.length → lm_vK h' m = some 11 → lm_vF h' m 0 = some (.ref q) → lm_vF h' m 3 = some (.int (Int32.ofNat a)) → lm_vA h' q 1 = some ys →
      lm_rn sc d lm_m50.2.2.2.2.1 (lm_reg lm_m50.2.2.2.2.2) (2, [(0, .ref m), (1, .int v), (2, .int (Int32.ofNat (i + 1)))], []) (lm_pA h' q 1 (ys.set (a + i) (lm_b8 (v >>> ((Int32.ofInt 24 - Int32.ofInt 8 * Int32.ofNat i) &&& 31)))), s) = some r →
      lm_rn sc d lm_m50.2.2.2.2.1 (lm_reg lm_m50.2.2.2.2.2) (2, [(0, .ref m), (1, .int v), (2, .int (Int32.ofNat i))], []) (h', s) = some r := by
    intro i ys h' r hi hl hK' h0' h3' hA' k9
    refine lm_e50_2 ?_
    unfold lm_q50_2
    rw [lm_if_f (show ¬ lm_cmp .ge (Int32.ofNat i) (Int32.ofInt 4) from fun h9 => by
      have h9 : Int32.ofNat 4 ≤ Int32.ofNat i := h9
      have := (lm_le32 (by omega) (by omega)).mp h9
      omega)]
    rw [lm_bd_ok (lm_oR (e := 4402) hK' h0' hm rfl), lm_bd_ok (lm_oI (e := 4412) hK' h3' hm rfl), lm_oo, lm_bd_ok (lm_osb hA' hq (by omega) (by omega)), lm_nar_b8]
    rw [show Int32.ofNat i + Int32.ofInt 1 = Int32.ofNat (i + 1) from lm_oa i 1]
    exact k9
  have fin : ∀ (h' : lm_H), lm_vK h' m = some 11 → lm_vF h' m 3 = some (.int (Int32.ofNat a)) → lm_rn sc d lm_m50.2.2.2.2.1 (lm_reg lm_m50.2.2.2.2.2) (2, [(0, .ref m), (1, .int v), (2, .int (Int32.ofNat 4))], []) (h', s) = some (.ok none, (lm_pf h' m 3 (.int (Int32.ofNat (a + 4))), s)) := by
    intro h' hK' h3'
    refine lm_e50_2 ?_
    unfold lm_q50_2
    rw [lm_if_t (show lm_cmp .ge (Int32.ofNat 4) (Int32.ofInt 4) from (show Int32.ofNat 4 ≤ Int32.ofNat 4 from (lm_le32 (by decide) (by decide)).mpr (Nat.le_refl 4))), lm_bd_ok (lm_oI (e := 4412) hK' h3' hm rfl), show Int32.ofNat a + Int32.ofInt 4 = Int32.ofNat (a + 4) from lm_oa a 4, lm_bd_ok (lm_oP (e := 4412) hK' h3' hm rfl rfl)]
    rfl
  have hq1 : ∀ (h' : lm_H) (ys zs : List Int32), lm_vA h' q 1 = some ys → lm_vK h' m = some 11 ∧ lm_vF h' m 0 = some (.ref q) ∧ lm_vF h' m 3 = some (.int (Int32.ofNat a)) → lm_vA (lm_pA h' q 1 zs) q 1 = some zs ∧ lm_vK (lm_pA h' q 1 zs) m = some 11 ∧ lm_vF (lm_pA h' q 1 zs) m 0 = some (.ref q) ∧ lm_vF (lm_pA h' q 1 zs) m 3 = some (.int (Int32.ofNat a)) := fun h' ys zs hy hz => ⟨lm_vA_pA_eq hy, (lm_vK_pA hy).trans hz.1, (lm_vF_pA hy).trans hz.2.1, (lm_vF_pA hy).trans hz.2.2⟩
  obtain ⟨a0, b0⟩ := hq1 h xs (xs.set (a + 0) (lm_b8 (v >>> ((Int32.ofInt 24 - Int32.ofInt 8 * Int32.ofNat 0) &&& 31)))) hA ⟨hK, h0, h3⟩
  refine step 0 xs h _ (by omega) rfl hK h0 h3 hA ?_
  obtain ⟨a1, b1⟩ := hq1 _ _ ((xs.set (a + 0) (lm_b8 (v >>> ((Int32.ofInt 24 - Int32.ofInt 8 * Int32.ofNat 0) &&& 31)))).set (a + 1) (lm_b8 (v >>> ((Int32.ofInt 24 - Int32.ofInt 8 * Int32.ofNat 1) &&& 31)))) a0 b0
  refine step 1 _ _ _ (by omega) (by simp only [List.length_set]) b0.1 b0.2.1 b0.2.2 a0 ?_
  obtain ⟨a2, b2⟩ := hq1 _ _ (((xs.set (a + 0) (lm_b8 (v >>> ((Int32.ofInt 24 - Int32.ofInt 8 * Int32.ofNat 0) &&& 31)))).set (a + 1) (lm_b8 (v >>> ((Int32.ofInt 24 - Int32.ofInt 8 * Int32.ofNat 1) &&& 31)))).set (a + 2) (lm_b8 (v >>> ((Int32.ofInt 24 - Int32.ofInt 8 * Int32.ofNat 2) &&& 31)))) a1 b1
  refine step 2 _ _ _ (by omega) (by simp only [List.length_set]) b1.1 b1.2.1 b1.2.2 a1 ?_
  refine step 3 _ _ _ (by omega) (by simp only [List.length_set]) b2.1 b2.2.1 b2.2.2 a2 ?_
  obtain ⟨a3, b3⟩ := hq1 _ _ ((((xs.set (a + 0) (lm_b8 (v >>> ((Int32.ofInt 24 - Int32.ofInt 8 * Int32.ofNat 0) &&& 31)))).set (a + 1) (lm_b8 (v >>> ((Int32.ofInt 24 - Int32.ofInt 8 * Int32.ofNat 1) &&& 31)))).set (a + 2) (lm_b8 (v >>> ((Int32.ofInt 24 - Int32.ofInt 8 * Int32.ofNat 2) &&& 31)))).set (a + 3) (lm_b8 (v >>> ((Int32.ofInt 24 - Int32.ofInt 8 * Int32.ofNat 3) &&& 31)))) a2 b2
  rw [fin _ b3.1 b3.2.2]
  have e3 : lm_b8 (v >>> ((Int32.ofInt 24 - Int32.ofInt 8 * Int32.ofNat 3) &&& 31)) = lm_b8 v := by
    rw [show (Int32.ofInt 24 - Int32.ofInt 8 * Int32.ofNat 3) &&& 31 = 0 by decide]
    simp
  rw [e3]
  unfold lm_pA
  rw [lm_ss, lm_ss, lm_ss]
  rfl
end LMMP
