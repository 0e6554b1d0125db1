/-! ===== the reference's small methods ===== -/
section LMMO
variable {sc h : lm_H} {s : Nat × Nat} {d m p q a b n : Nat} {xs ys : List Int32}
theorem lm_t4 {x : Int32} (hK : lm_vK h m = some 11) (hF : lm_vF h m 4 = some (.int x)) (hb : m < lm_B) : lm_cal sc (d + 1) 4 [.ref m] (h, s) = some (.ok (some (.int x)), (h, s)) := by
  refine lm_cal_of (Y := lm_m4) rfl rfl (lm_e4_0 ?_)
  unfold lm_q4_0
  rw [lm_bd_ok (lm_oI (e := 4416) hK hF hb rfl)]
  rfl
/-- good: the code becomes 0, or c -/
theorem lm_t49 {w : Value} (y : Bool) (c : Int32) (hK : lm_vK h m = some 11) (hF : lm_vF h m 4 = some w) (hb : m < lm_B) : lm_cal sc (d + 1) 49 [.ref m, .int (lm_z y), .int c] (h, s) = some (.ok (some (.int (lm_z y))), (lm_pf h m 4 (.int (cond y 0 c)), s)) := by
  refine lm_cal_of (Y := lm_m49) rfl rfl (lm_e49_0 ?_)
  unfold lm_q49_0
  cases y with
  | true =>
    rw [lm_if_f (show ¬ lm_cmp .eq (lm_z true) 0 from (by decide : ¬ (1 : Int32) = 0)), lm_bd_ok (lm_oP (e := 4416) hK hF hb rfl rfl), lm_when_t (by decide)]
    rfl
  | false =>
    rw [lm_if_t (show lm_cmp .eq (lm_z false) 0 from rfl), lm_bd_ok (lm_oP (e := 4416) hK hF hb rfl rfl), lm_when_t (by decide)]
    rfl
/-- in -/
theorem lm_t52 (σ : lm_S) (v a b : Int32) : lm_cal sc (d + 1) 52 [.int v, .int a, .int b] σ = some (.ok (some (.int (lm_z (decide (a ≤ v) && decide (v ≤ b))))), σ) := by
  refine lm_cal_of (Y := lm_m52) rfl rfl (lm_e52_0 ?_)
  unfold lm_q52_0
  by_cases h1 : v < a
  · rw [lm_if_t (show lm_cmp .lt v a from h1), lm_when_t (by decide), decide_eq_false (show ¬ a ≤ v from Int32.not_le.mpr h1)]
    rfl
  · rw [lm_if_f (show ¬ lm_cmp .lt v a from h1), decide_eq_true (show a ≤ v from Int32.not_lt.mp h1)]
    by_cases h2 : b < v
    · rw [lm_if_t (show lm_cmp .gt v b from h2), lm_when_t (by decide), decide_eq_false (show ¬ v ≤ b from Int32.not_le.mpr h2)]
      rfl
    · rw [lm_if_f (show ¬ lm_cmp .gt v b from h2), lm_when_t (by decide), decide_eq_true (show v ≤ b from Int32.not_lt.mp h2)]
      rfl
/-- xs with n of ys, from a on, laid at b: byte by byte -/
theorem lm_lay_step {xs ys : List Int32} {a b i : Nat} (ha : a + i < ys.length) (hb : b + i < xs.length) : (lm_lay xs ys a b i).set (b + i) (ys.getD (a + i) 0) = lm_lay xs ys a b (i + 1) := by
  have e1 : (xs.take b).length = b := by rw [List.length_take]; omega
  have e2 : ((ys.drop a).take i).length = i := by rw [List.length_take, List.length_drop]; omega
  unfold lm_lay
  rw [List.set_append_right _ _ (by omega), e1, List.set_append_right _ _ (by omega), e2]
  rw [show b + i - b - i = 0 by omega]
  have e3 : xs.drop (b + i) = xs[b + i] :: xs.drop (b + i + 1) := List.drop_eq_getElem_cons hb
  rw [e3, List.set_cons_zero]
  have e4 : (ys.drop a).take (i + 1) = (ys.drop a).take i ++ [ys.getD (a + i) 0] := by
    rw [List.take_add_one, List.getElem?_drop, List.getElem?_eq_getElem ha, List.getD_eq_getElem?_getD, List.getElem?_eq_getElem ha]
    rfl
  rw [e4, List.append_assoc]
  rfl
theorem lm_lay_zero {xs ys : List Int32} {a b : Nat} : lm_lay xs ys a b 0 = xs := by
  unfold lm_lay
  simp
theorem lm_lay_ln {xs ys : List Int32} {a b n : Nat} (ha : a + n ≤ ys.length) (hb : b + n ≤ xs.length) : (lm_lay xs ys a b n).length = xs.length := by
  unfold lm_lay
  simp only [List.length_append, List.length_take, List.length_drop]
  omega
/-- what byte arrays hold -/
def lm_by (xs : List Int32) : Prop := ∀ x ∈ xs, lm_b8 x = x
theorem lm_by_getD (hx : lm_by xs) (i : Nat) : lm_b8 (xs.getD i 0) = xs.getD i 0 := by
  by_cases hi : i < xs.length
  · rw [List.getD_eq_getElem?_getD, List.getElem?_eq_getElem hi]
    exact hx _ (List.getElem_mem hi)
  · rw [List.getD_eq_getElem?_getD, List.getElem?_eq_none (by omega)]
    rfl
theorem lm_nar_by (x : Int32) : vp_nar .byte x = lm_b8 x := rfl
/-- move: between two arrays -/
theorem lm_t75_3 (hpq : p ≠ q) (hb : p < lm_B) (hq : q < lm_B) (hx : lm_by xs) : ∀ (k i : Nat) (h : lm_H), lm_vA h p 1 = some xs → lm_vA h q 1 = some (lm_lay ys xs a b i) → i + k = n → a + n ≤ xs.length → b + n ≤ ys.length → xs.length ≤ 1000000 → ys.length ≤ 1000000 →
    lm_rn sc d lm_m75.2.2.2.2.1 (lm_reg lm_m75.2.2.2.2.2) (3, [(0, .ref p), (1, .int (Int32.ofNat a)), (2, .ref q), (3, .int (Int32.ofNat b)), (4, .int (Int32.ofNat n)), (5, .int (Int32.ofNat i))], []) (h, s) = some (.ok none, (lm_pA h q 1 (lm_lay ys xs a b n), s)) := by
  intro k
  induction k with
  | zero =>
    intro i h hA hB hi ha hbn hl hl2
    refine lm_e75_3 ?_
    unfold lm_q75_3
    rw [lm_if_t (show lm_cmp .ge (Int32.ofNat i) (Int32.ofNat n) from (lm_le32 (by omega) (by omega)).mpr (by omega))]
    have hin : i = n := by omega
    subst hin
    show some (Except.ok none, (h, s)) = _
    unfold lm_pA
    rw [lm_sid (lm_vA_arr hB)]
  | succ k ih =>
    intro i h hA hB hi ha hbn hl hl2
    refine lm_e75_3 ?_
    unfold lm_q75_3
    have hlen : (lm_lay ys xs a b i).length = ys.length := lm_lay_ln (by omega) (by omega)
    rw [lm_if_f (show ¬ lm_cmp .ge (Int32.ofNat i) (Int32.ofNat n) from fun h9 => by have := (lm_le32 (by omega) (by omega)).mp h9; omega)]
    rw [lm_oo, lm_oo, lm_bd_ok (lm_oib hA hb (by omega) hl), lm_bd_ok (lm_osb hB hq (by omega) (by omega)), lm_nar_by, lm_by_getD hx, lm_lay_step (by omega) (by omega)]
    rw [show Int32.ofNat i + Int32.ofInt 1 = Int32.ofNat (i + 1) from lm_oa i 1]
    rw [ih (i + 1) _ ((lm_vA_pA_ne (Ne.symm hpq)).trans hA) (lm_vA_pA_eq hB) (by omega) ha hbn hl hl2]
    unfold lm_pA
    rw [lm_ss]
theorem lm_t75 (hpq : p ≠ q) (hb : p < lm_B) (hq : q < lm_B) (hx : lm_by xs) (hA : lm_vA h p 1 = some xs) (hB : lm_vA h q 1 = some ys) (ha : a + n ≤ xs.length) (hbn : b + n ≤ ys.length) (hl : xs.length ≤ 1000000) (hl2 : ys.length ≤ 1000000) :
    lm_cal sc (d + 1) 75 [.ref p, .int (Int32.ofNat a), .ref q, .int (Int32.ofNat b), .int (Int32.ofNat n)] (h, s) = some (.ok none, (lm_pA h q 1 (lm_lay ys xs a b n), s)) := by
  refine lm_cal_of (Y := lm_m75) rfl rfl (lm_e75_0 ?_)
  unfold lm_q75_0
  exact lm_t75_3 hpq hb hq hx n 0 h hA (by rw [lm_lay_zero]; exact hB) (by omega) ha hbn hl hl2
end LMMO
