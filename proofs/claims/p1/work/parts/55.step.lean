/-! ===== the tie of class and reference, and one call of both ===== -/
def lm_al8 (m : lm_MI) (p q l : Nat) : Prop := ∀ t, t < l → lm_b8 (m p t) = lm_b8 (m q t)
def lm_TieT (m : lm_MI) : Prop := ∃ l, l ≤ 65536 ∧ m 2 1 = Int32.ofNat l ∧ m 203 3 = Int32.ofNat l ∧ lm_al8 m 3 204 l
def lm_TieS (m : lm_MI) (i : Nat) : Prop := ∃ l, l ≤ 65536 ∧ m (26 + 2 * i) 1 = Int32.ofNat l ∧ m 214 i = Int32.ofNat l ∧ lm_al8 m (27 + 2 * i) (206 + i) l
def lm_Tie (m : lm_MI) : Prop := lm_TieT m ∧ ∀ i, i < 8 → lm_TieS m i
/-- the constants: zetas of the class; roots, cubes, two starts, turns, rounds of the reference -/
def lm_cst : List Nat := [45, 46, 77, 215, 216, 217, 218, 221, 222]
def lm_kp (m : lm_MI) (n : lm_ML) (m' : lm_MI) (n' : lm_ML) : Prop := (∀ q ∈ lm_cst, m' q = m q ∧ n' q = n q) ∧ m' 11 1 = m 11 1 ∧ m' 17 1 = m 17 1
/-- room for r refusals -/
def lm_rmm (r : Nat) (x : lm_H × Nat × Nat) : Prop := 362 + x.1.length + r < 999999 ∧ r ≤ x.2.1 ∧ 6 * r ≤ x.2.2 ∧ lm_ho x
theorem lm_rm_room {r : Nat} {x : lm_H × Nat × Nat} (h : lm_rmm (r + 1) x) : lm_rom x := ⟨by have := h.1; show 362 + x.1.length + 1 < 1000000; omega, by have := h.2.1; omega, by have := h.2.2.1; omega⟩
theorem lm_rm_xx {r k : Nat} {x : lm_H × Nat × Nat} (h : lm_rmm (r + 1) x) : lm_rmm r (lm_xx k x) := by
  obtain ⟨h1, h2, h3, h4⟩ := h
  refine ⟨?_, ?_, ?_, h4.xx⟩
  · show 362 + (x.1 ++ [_]).length + r < 999999
    rw [List.length_append]
    show 362 + (x.1.length + 1) + r < 999999
    omega
  · show r ≤ x.2.1 - 1
    omega
  · show 6 * r ≤ x.2.2 - 6
    omega
theorem lm_rm_le {r : Nat} {x : lm_H × Nat × Nat} (h : lm_rmm (r + 1) x) : lm_rmm r x := ⟨by have := h.1; omega, by have := h.2.1; omega, by have := h.2.2.1; omega, h.2.2.2⟩
theorem lm_rm_so {r : Nat} {x : lm_H × Nat × Nat} {v : Int64} (h : lm_rmm (r + 1) x) : lm_rmm r (lm_so v x) := ⟨by have := h.1; show 362 + (x.1.set 0 _).length + r < 999999; rw [List.length_set]; omega, by have := h.2.1; show r ≤ x.2.1; omega, by have := h.2.2.1; show 6 * r ≤ x.2.2; omega, h.2.2.2.so⟩
/-- a call of both: the same code; where it is 0 the same answer; the tie holds behind it -/
def lm_Stp (sc : lm_H) (yl yr : Nat) (as : List Value) (m : lm_MI) (n : lm_ML) (x : lm_H × Nat × Nat) : Prop := ∀ r, lm_rmm (r + 1) x → ∃ (k b : Int32) (m1 : lm_MI) (n1 : lm_ML) (x1 : lm_H × Nat × Nat) (m2 : lm_MI) (n2 : lm_ML), lm_cal sc 600 yl (.ref 0 :: (as ++ [.ref 362])) (lm_w m n x) = some (.ok (some (.int k)), lm_w m1 n1 x1) ∧ lm_cal sc 600 yr (.ref 203 :: as) (lm_w m1 n1 x1) = some (.ok (some (.int b)), lm_w m2 n2 x1) ∧ m2 203 4 = k ∧ (k = 0 → lm_gv x1 = b.toInt64) ∧ lm_Tie m2 ∧ lm_kp m n m2 n2 ∧ lm_rmm r x1
def lm_StpL (sc : lm_H) (yl yr : Nat) (as : List Value) (m : lm_MI) (n : lm_ML) (x : lm_H × Nat × Nat) : Prop := ∀ r, lm_rmm (r + 1) x → ∃ (k : Int32) (b : Int64) (m1 : lm_MI) (n1 : lm_ML) (x1 : lm_H × Nat × Nat) (m2 : lm_MI) (n2 : lm_ML), lm_cal sc 600 yl (.ref 0 :: (as ++ [.ref 362])) (lm_w m n x) = some (.ok (some (.int k)), lm_w m1 n1 x1) ∧ lm_cal sc 600 yr (.ref 203 :: as) (lm_w m1 n1 x1) = some (.ok (some (.long b)), lm_w m2 n2 x1) ∧ m2 203 4 = k ∧ (k = 0 → lm_gv x1 = b) ∧ lm_Tie m2 ∧ lm_kp m n m2 n2 ∧ lm_rmm r x1
def lm_StpZ (sc : lm_H) (yl yr : Nat) (as : List Value) (m : lm_MI) (n : lm_ML) (x : lm_H × Nat × Nat) : Prop := ∀ r, lm_rmm (r + 1) x → ∃ (k : Int32) (b : Bool) (m1 : lm_MI) (n1 : lm_ML) (x1 : lm_H × Nat × Nat) (m2 : lm_MI) (n2 : lm_ML), lm_cal sc 600 yl (.ref 0 :: (as ++ [.ref 362])) (lm_w m n x) = some (.ok (some (.int k)), lm_w m1 n1 x1) ∧ lm_cal sc 600 yr (.ref 203 :: as) (lm_w m1 n1 x1) = some (.ok (some (.int (lm_z b))), lm_w m2 n2 x1) ∧ m2 203 4 = k ∧ (k = 0 → lm_gv x1 = lm_zl b) ∧ lm_Tie m2 ∧ lm_kp m n m2 n2 ∧ lm_rmm r x1
/-! the tie is kept where the rows are -/
def lm_tie_rows : List Nat := [2, 3, 203, 204, 214, 26, 27, 28, 29, 30, 31, 32, 33, 34, 35, 36, 37, 38, 39, 40, 41, 206, 207, 208, 209, 210, 211, 212, 213]
section LMTI
variable {m m' : lm_MI} {n n' : lm_ML} {i j l : Nat}
theorem lm_TieT.of (h : lm_TieT m) (h1 : m' 2 1 = m 2 1) (h2 : m' 203 3 = m 203 3) (h3 : m' 3 = m 3) (h4 : m' 204 = m 204) : lm_TieT m' := by
  obtain ⟨l, a1, a2, a3, a4⟩ := h
  exact ⟨l, a1, h1.trans a2, h2.trans a3, fun t ht => by rw [h3, h4]; exact a4 t ht⟩
theorem lm_TieS.of (h : lm_TieS m i) (h1 : m' (26 + 2 * i) 1 = m (26 + 2 * i) 1) (h2 : m' 214 i = m 214 i) (h3 : m' (27 + 2 * i) = m (27 + 2 * i)) (h4 : m' (206 + i) = m (206 + i)) : lm_TieS m' i := by
  obtain ⟨l, a1, a2, a3, a4⟩ := h
  exact ⟨l, a1, h1.trans a2, h2.trans a3, fun t ht => by rw [h3, h4]; exact a4 t ht⟩
/-- only the code is written -/
theorem lm_Tie.cod {k : Int32} (h : lm_Tie m) : lm_Tie (lm_u m 203 4 k) :=
  ⟨h.1.of (lm_u_ne (by decide)) (lm_u_ne (by decide)) (lm_u_row (by decide)) (lm_u_row (by decide)), fun i hi => (h.2 i hi).of (lm_u_ne (by omega)) (lm_u_ne (by omega)) (lm_u_row (by omega)) (lm_u_row (by omega))⟩
theorem lm_kp.of (h1 : ∀ q ∈ lm_cst, m' q = m q) (h2 : ∀ q ∈ lm_cst, n' q = n q) (h3 : m' 11 1 = m 11 1) (h4 : m' 17 1 = m 17 1) : lm_kp m n m' n' := ⟨fun q hq => ⟨h1 q hq, h2 q hq⟩, h3, h4⟩
theorem lm_cst_ne {P : Nat → Prop} (h : ∀ q, q < 26 ∨ (41 < q ∧ q < 203) ∨ (214 < q ∧ q < 362) → P q) : ∀ q ∈ lm_cst, P q := by
  intro q hq
  apply h
  simp only [lm_cst, List.mem_cons, List.mem_nil_iff, or_false] at hq
  omega
theorem lm_kpc {k : Int32} : lm_kp m n (lm_u m 203 4 k) n := .of (lm_cst_ne fun q hq => lm_u_row (by omega)) (fun _ _ => rfl) (by rw [lm_u_row (by decide)]) (by rw [lm_u_row (by decide)])
theorem lm_kpo (h : ∀ q, (q = 11 ∨ q = 17 ∨ (41 < q ∧ q < 203)) ∨ (214 < q ∧ q < 362) → m' q = m q) : lm_kp m n m' n := by
  refine ⟨?_, by rw [h 11 (by omega)], by rw [h 17 (by omega)]⟩
  intro q hq
  simp only [lm_cst, List.mem_cons, List.mem_nil_iff, or_false] at hq
  exact ⟨h q (by omega), rfl⟩
end LMTI
