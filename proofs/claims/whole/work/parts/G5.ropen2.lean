/-! ===== kemOpen of the reference, whole ===== -/
section LMRG
variable {sc : lm_H} {C : lm_CX} {d s l l2 : Nat} {m : lm_MI} {n : lm_ML} {x : lm_H × Nat × Nat}
/-- decrypt: from the check to the plain text -/
theorem lm_l26c (hs : s ≤ 2) (h : lm_RK0 C (s + 2) (lm_ke s) m n) (h34 : m 203 34 = Int32.ofNat (lm_ku s)) (h35 : m 203 35 = Int32.ofNat (lm_kv s)) : ∃ m' n', (∀ r, r ≠ 203 → (r < 243 ∨ 245 < r) → r ≠ 267 → m' r = m r) ∧ (∀ j, j ≠ 4 → j ≠ 18 → j ≠ 19 → j ≠ 20 → j ≠ 24 → m' 203 j = m 203 j) ∧ (∀ q, q ≠ 203 → q ≠ 223 → q ≠ 224 → q ≠ 225 → q ≠ 226 → q ≠ 230 → n' q = n q) ∧ m' 203 4 = 0 ∧ (∀ j, j < 32 → lm_b8 (m' 267 j) = lm_b8 (ln_oR (m 208) (m 211) s j)) ∧ ∀ R, lm_rn sc (d + 7) lm_m26.2.2.2.2.1 (lm_reg lm_m26.2.2.2.2.2) (425, [(0, .ref 203), (2, .int (Int32.ofNat (384 * (s + 2)))), (3, .int (Int32.ofNat (lm_kps s))), (5, .int (Int32.ofNat 256))], []) (lm_w m' n' x) = some R → lm_rn sc (d + 7) lm_m26.2.2.2.2.1 (lm_reg lm_m26.2.2.2.2.2) (146, [(0, .ref 203), (2, .int (Int32.ofNat (384 * (s + 2)))), (3, .int (Int32.ofNat (lm_kps s))), (4, .int (lm_z true))], []) (lm_w m n x) = some R := by
  obtain ⟨⟨z1, z2⟩, ⟨z3, z4⟩, z5, z6⟩ := lm_kusz hs
  have u49 := lm_u49 (sc := sc) (d := d + 6) (m := m) (n := n) (x := x) (k := Int32.ofInt 2) true
  generalize eM0 : lm_u m 203 4 (cond true 0 (Int32.ofInt 2)) = M0 at u49
  have r0 : ∀ r, r ≠ 203 → M0 r = m r := fun r hr => by rw [← eM0, lm_u_row hr]
  have f0 : ∀ j, j ≠ 4 → M0 203 j = m 203 j := fun j hj => by rw [← eM0, lm_u_ne (fun g => hj g.2)]
  have e4 : M0 203 4 = 0 := by rw [← eM0, lm_u_eq]; rfl
  obtain ⟨m1, c1, p1⟩ := lm_u81 (sc := sc) (d := d + 6) (m := M0) (n := n) (x := x) (p := 243) rfl
  have r1 : ∀ r, r ≠ 203 → r ≠ 243 → m1 r = m r := fun r q1 q2 => by rw [p1.1 r q2, r0 r q1]
  have f1 : ∀ j, j ≠ 4 → m1 203 j = m 203 j := fun j hj => by rw [p1.1 203 (by decide), f0 j hj]
  have h1 : lm_RK0 C (s + 2) (lm_ke s) m1 n := by
    refine ⟨?_, by rw [f1 32 (by decide)]; exact h.2.1, by rw [f1 33 (by decide)]; exact h.2.2.1, by rw [r1 231 (by decide) (by decide)]; exact h.2.2.2⟩
    rw [← h.1]
    unfold lm_cx lm_tb
    rw [r1 221 (by decide) (by decide)]
  obtain ⟨m2, n2, ⟨a1, a2, a3⟩, k2⟩ := lm_l26s (sc := sc) (d := d) (m := m1) (n := n) (x := x) (du := lm_ku s) (x2 := Int32.ofNat (384 * (s + 2))) (x3 := Int32.ofNat (lm_kps s)) h1 (by rw [f1 34 (by decide)]; exact h34) (by omega) z1 z2 p1.2
  rw [r1 208 (by decide) (by decide), r1 211 (by decide) (by decide)] at a3
  have h2 := h1.keepB a2 (a1 221 (by decide) (by decide)) (a1 231 (by decide) (by decide))
  obtain ⟨m3, n3, c3, p3, q3⟩ := lm_u83 (sc := sc) (d := d + 5) (x := x) (p := 243) (m := m2) (n := n2) rfl h2.2.2.2 (lm_dA_rg (s + 2)) a3
  generalize eM3 : lm_u m3 203 24 (Int32.ofNat (8 * (32 * lm_ku s * (s + 2)))) = M3
  have rM3 : ∀ r, r ≠ 203 → M3 r = m3 r := fun r hr => by rw [← eM3, lm_u_row hr]
  have fM3 : ∀ i, i ≠ 24 → M3 203 i = m3 203 i := fun i hi => by rw [← eM3, lm_u_ne (fun g => hi g.2)]
  have fA : ∀ j, j ≠ 18 → j ≠ 19 → j ≠ 20 → j ≠ 24 → m3 203 j = m1 203 j := fun j j1 j2 j3 j4 => by rw [p3.1 203 (by decide), a2.1 j j1 j2 j3 j4]
  obtain ⟨m4, b1, b2, b3, k4⟩ := lm_l26v (sc := sc) (d := d) (m := M3) (n := n3) (x := x) (dv := lm_kv s) (x2 := Int32.ofNat (384 * (s + 2))) (x3 := Int32.ofNat (lm_kps s)) (T := 32 * lm_ku s * (s + 2)) (by rw [fM3 35 (by decide), fA 35 (by decide) (by decide) (by decide) (by decide), f1 35 (by decide)]; exact h35) z3 z4 (Nat.mul_le_mul (Nat.mul_le_mul_left 32 z2) (show s + 2 ≤ 4 by omega)) (by rw [← eM3, lm_u_eq])
  rw [rM3 211 (by decide), p3.1 211 (by decide), a1 211 (by decide) (by decide), r1 211 (by decide) (by decide)] at b3
  generalize eM4 : lm_u m4 203 24 (Int32.ofNat 0) = M4
  have rM4 : ∀ r, r ≠ 203 → M4 r = m4 r := fun r hr => by rw [← eM4, lm_u_row hr]
  have fM4 : ∀ i, i ≠ 24 → M4 203 i = m4 203 i := fun i hi => by rw [← eM4, lm_u_ne (fun g => hi g.2)]
  obtain ⟨m5, d1, d2, d3, k5⟩ := lm_l26m (sc := sc) (d := d) (m := M4) (n := n3) (x := x) (x2 := Int32.ofNat (384 * (s + 2))) (x3 := Int32.ofNat (lm_kps s)) (V := lm_dV (m 211) (32 * lm_ku s * (s + 2)) (lm_kv s)) (U := fun c => lm_un (lm_dA (m 208) (m 211) (lm_ku s) (s + 2)) c % 3329) (Z := lm_dZ (m 208) (m 211) (lm_ku s) (lm_kv s) (s + 2)) (fun c hc => ⟨by rw [rM4 244 (by decide)]; exact b3 c hc, lm_dV_le z3 z4⟩) (fun c hc => by
    have := lm_m3329 (lm_un (lm_dA (m 208) (m 211) (lm_ku s) (s + 2)) c)
    refine ⟨?_, this.1, by omega⟩
    rw [rM4 243 (by decide), b1 243 (by decide) (by decide), rM3 243 (by decide)]
    exact p3.2 c hc) (fun c hc => by
    unfold lm_dZ
    rw [Int.add_emod_right]
    exact (ln_cg.sb ln_cg.rf (ln_cg.em.tr (lm_un_cg (fun c => lm_dA_cg (s + 2) c) c))).eq) (by rw [← eM4, lm_u_eq])
  have fE : ∀ j, j ≠ 18 → j ≠ 19 → j ≠ 20 → j ≠ 24 → m5 203 j = m1 203 j := fun j j1 j2 j3 j4 => by rw [d2 j j4, fM4 j j4, b2 j j4, fM3 j j4, fA j j1 j2 j3 j4]
  refine ⟨m5, n3, fun r q1 q2 q4 => by rw [d1 r q1 q4, rM4 r q1, b1 r q1 (by omega), rM3 r q1, p3.1 r (by omega), a1 r q1 q2, r1 r q1 (by omega)], fun j j1 j2 j3 j4 j5 => by rw [fE j j2 j3 j4 j5, f1 j j1], fun q q1 q2 q4 q5 q6 q7 => by rw [q3 q q7, a2.2 q q1 q2 q4 q5 q6 q7], by rw [fE 4 (by decide) (by decide) (by decide) (by decide), p1.1 203 (by decide), e4], fun j hj => lm_b8_eq (by rw [d3 j hj, ln_oR_yb]; rfl), fun R K => lm_e26_146 ?_⟩
  have e32 : m2 203 32 = Int32.ofNat (s + 2) := h2.2.1
  have e32' : m3 203 32 = Int32.ofNat (s + 2) := by rw [p3.1 203 (by decide)]; exact e32
  have e34' : m3 203 34 = Int32.ofNat (lm_ku s) := by rw [fA 34 (by decide) (by decide) (by decide) (by decide), f1 34 (by decide)]; exact h34
  unfold lm_q26_146
  repeat (first
    | ((with_reducible apply lm_sI); exact rfl)
    | ((with_reducible apply lm_sR); exact rfl)
    | ((with_reducible apply lm_sS); exact rfl; exact rfl)
    | ((with_reducible apply lm_sL); exact rfl)
    | ((with_reducible apply lm_sP); exact rfl; exact rfl)
    | ((with_reducible apply lm_sPL); exact rfl; exact rfl)
    | ((with_reducible apply lm_sAA); exact rfl; exact rfl)
    | ((with_reducible apply lm_sA); (first | exact rfl | assumption); omega)
    | ((with_reducible apply lm_sJ); (first | exact rfl | assumption); omega)
    | ((with_reducible apply lm_sB); (first | exact rfl | assumption); omega)
    | ((with_reducible apply lm_wA); (first | exact rfl | assumption); omega)
    | ((with_reducible apply lm_wJ); (first | exact rfl | assumption); omega)
    | ((with_reducible apply lm_wB); (first | exact rfl | assumption); omega)
    | ((with_reducible apply lm_sAl); (first | exact rfl | assumption); omega)
    | ((with_reducible apply lm_iW); decide))
  refine lm_cI u49 ?_
  refine lm_iT (show ¬ (1 : Int32) = 0 by decide) ?_
  rw [lm_K10, lm_K0]
  repeat (first
    | ((with_reducible apply lm_sI); exact rfl)
    | ((with_reducible apply lm_sR); exact rfl)
    | ((with_reducible apply lm_sS); exact rfl; exact rfl)
    | ((with_reducible apply lm_sL); exact rfl)
    | ((with_reducible apply lm_sP); exact rfl; exact rfl)
    | ((with_reducible apply lm_sPL); exact rfl; exact rfl)
    | ((with_reducible apply lm_sAA); exact rfl; exact rfl)
    | ((with_reducible apply lm_sA); (first | exact rfl | assumption); omega)
    | ((with_reducible apply lm_sJ); (first | exact rfl | assumption); omega)
    | ((with_reducible apply lm_sB); (first | exact rfl | assumption); omega)
    | ((with_reducible apply lm_wA); (first | exact rfl | assumption); omega)
    | ((with_reducible apply lm_wJ); (first | exact rfl | assumption); omega)
    | ((with_reducible apply lm_wB); (first | exact rfl | assumption); omega)
    | ((with_reducible apply lm_sAl); (first | exact rfl | assumption); omega)
    | ((with_reducible apply lm_iW); decide))
  refine lm_cV c1 ?_
  refine k2 R (lm_e26_171 ?_)
  unfold lm_q26_171
  repeat (first
    | ((with_reducible apply lm_sI); exact rfl)
    | ((with_reducible apply lm_sR); exact rfl)
    | ((with_reducible apply lm_sS); exact rfl; exact rfl)
    | ((with_reducible apply lm_sL); exact rfl)
    | ((with_reducible apply lm_sP); exact rfl; exact rfl)
    | ((with_reducible apply lm_sPL); exact rfl; exact rfl)
    | ((with_reducible apply lm_sAA); exact rfl; exact rfl)
    | ((with_reducible apply lm_sA); (first | exact rfl | assumption); omega)
    | ((with_reducible apply lm_sJ); (first | exact rfl | assumption); omega)
    | ((with_reducible apply lm_sB); (first | exact rfl | assumption); omega)
    | ((with_reducible apply lm_wA); (first | exact rfl | assumption); omega)
    | ((with_reducible apply lm_wJ); (first | exact rfl | assumption); omega)
    | ((with_reducible apply lm_wB); (first | exact rfl | assumption); omega)
    | ((with_reducible apply lm_sAl); (first | exact rfl | assumption); omega)
    | ((with_reducible apply lm_iW); decide))
  simp only [Nat.reduceDiv, Nat.reduceMod]
  rw [e32]
  refine lm_geT (by omega) (by omega) (by omega) ?_
  rw [lm_K10, lm_K0, lm_K256]
  repeat (first
    | ((with_reducible apply lm_sI); exact rfl)
    | ((with_reducible apply lm_sR); exact rfl)
    | ((with_reducible apply lm_sS); exact rfl; exact rfl)
    | ((with_reducible apply lm_sL); exact rfl)
    | ((with_reducible apply lm_sP); exact rfl; exact rfl)
    | ((with_reducible apply lm_sPL); exact rfl; exact rfl)
    | ((with_reducible apply lm_sAA); exact rfl; exact rfl)
    | ((with_reducible apply lm_sA); (first | exact rfl | assumption); omega)
    | ((with_reducible apply lm_sJ); (first | exact rfl | assumption); omega)
    | ((with_reducible apply lm_sB); (first | exact rfl | assumption); omega)
    | ((with_reducible apply lm_wA); (first | exact rfl | assumption); omega)
    | ((with_reducible apply lm_wJ); (first | exact rfl | assumption); omega)
    | ((with_reducible apply lm_wB); (first | exact rfl | assumption); omega)
    | ((with_reducible apply lm_sAl); (first | exact rfl | assumption); omega)
    | ((with_reducible apply lm_iW); decide))
  refine lm_cV c3 ?_
  repeat (first
    | ((with_reducible apply lm_sI); exact rfl)
    | ((with_reducible apply lm_sR); exact rfl)
    | ((with_reducible apply lm_sS); exact rfl; exact rfl)
    | ((with_reducible apply lm_sL); exact rfl)
    | ((with_reducible apply lm_sP); exact rfl; exact rfl)
    | ((with_reducible apply lm_sPL); exact rfl; exact rfl)
    | ((with_reducible apply lm_sAA); exact rfl; exact rfl)
    | ((with_reducible apply lm_sA); (first | exact rfl | assumption); omega)
    | ((with_reducible apply lm_sJ); (first | exact rfl | assumption); omega)
    | ((with_reducible apply lm_sB); (first | exact rfl | assumption); omega)
    | ((with_reducible apply lm_wA); (first | exact rfl | assumption); omega)
    | ((with_reducible apply lm_wJ); (first | exact rfl | assumption); omega)
    | ((with_reducible apply lm_wB); (first | exact rfl | assumption); omega)
    | ((with_reducible apply lm_sAl); (first | exact rfl | assumption); omega)
    | ((with_reducible apply lm_iW); decide))
  simp only [Nat.reduceDiv, Nat.reduceMod]
  rw [e32', e34', lm_om, lm_om, show 256 * lm_ku s * (s + 2) = 8 * (32 * lm_ku s * (s + 2)) by rw [← Nat.mul_assoc, ← Nat.mul_assoc]]
  repeat (first
    | ((with_reducible apply lm_sI); exact rfl)
    | ((with_reducible apply lm_sR); exact rfl)
    | ((with_reducible apply lm_sS); exact rfl; exact rfl)
    | ((with_reducible apply lm_sL); exact rfl)
    | ((with_reducible apply lm_sP); exact rfl; exact rfl)
    | ((with_reducible apply lm_sPL); exact rfl; exact rfl)
    | ((with_reducible apply lm_sAA); exact rfl; exact rfl)
    | ((with_reducible apply lm_sA); (first | exact rfl | assumption); omega)
    | ((with_reducible apply lm_sJ); (first | exact rfl | assumption); omega)
    | ((with_reducible apply lm_sB); (first | exact rfl | assumption); omega)
    | ((with_reducible apply lm_wA); (first | exact rfl | assumption); omega)
    | ((with_reducible apply lm_wJ); (first | exact rfl | assumption); omega)
    | ((with_reducible apply lm_wB); (first | exact rfl | assumption); omega)
    | ((with_reducible apply lm_sAl); (first | exact rfl | assumption); omega)
    | ((with_reducible apply lm_iW); decide))
  rw [eM3]
  refine k4 R (lm_e26_371 ?_)
  unfold lm_q26_371
  rw [lm_K256, lm_K0]
  refine lm_geT (by omega) (by omega) (by omega) ?_
  repeat (first
    | ((with_reducible apply lm_sI); exact rfl)
    | ((with_reducible apply lm_sR); exact rfl)
    | ((with_reducible apply lm_sS); exact rfl; exact rfl)
    | ((with_reducible apply lm_sL); exact rfl)
    | ((with_reducible apply lm_sP); exact rfl; exact rfl)
    | ((with_reducible apply lm_sPL); exact rfl; exact rfl)
    | ((with_reducible apply lm_sAA); exact rfl; exact rfl)
    | ((with_reducible apply lm_sA); (first | exact rfl | assumption); omega)
    | ((with_reducible apply lm_sJ); (first | exact rfl | assumption); omega)
    | ((with_reducible apply lm_sB); (first | exact rfl | assumption); omega)
    | ((with_reducible apply lm_wA); (first | exact rfl | assumption); omega)
    | ((with_reducible apply lm_wJ); (first | exact rfl | assumption); omega)
    | ((with_reducible apply lm_wB); (first | exact rfl | assumption); omega)
    | ((with_reducible apply lm_sAl); (first | exact rfl | assumption); omega)
    | ((with_reducible apply lm_iW); decide))
  rw [eM4]
  exact k5 R K
/-- kemOpen of the reference -/
theorem lm_u26c (hC : lm_cx m n = C) (hs : s ≤ 2) (hl : m 214 5 = Int32.ofNat l) (hll : l ≤ 65536) (hl2 : m 214 2 = Int32.ofNat l2) (hll2 : l2 ≤ 65536) : (lm_ook C (m 208) s l l2 ∧ ((∃ m' n' b, lm_cal sc (d + 8) 26 [.ref 203, .int (Int32.ofNat s)] (lm_w m n x) = some (.ok (some (.int (lm_z b))), lm_w m' n' x) ∧ lm_kAll C (m 208) (384 * (s + 2) + 384 * (s + 2)) (s + 2) ∧ (∀ r, r ≠ 203 → r ≠ 212 → r ≠ 214 → r ≠ 227 → (r < 231 ∨ 267 < r) → m' r = m r) ∧ (∀ j, j ≠ 4 → j ≠ 18 → j ≠ 19 → j ≠ 20 → j ≠ 24 → (j < 32 ∨ 35 < j) → m' 203 j = m 203 j) ∧ (∀ q, q ≠ 203 → q ≠ 223 → q ≠ 224 → q ≠ 225 → q ≠ 226 → q ≠ 230 → n' q = n q) ∧ m' 203 4 = 0 ∧ (∀ j, j ≠ 6 → m' 214 j = m 214 j) ∧ m' 214 6 = Int32.ofNat 32 ∧ (b = true ↔ ln_oE C (m 208) (m 211) s) ∧ ∀ j, j < 32 → lm_b8 (m' 212 j) = lm_b8 (cond b (ln_oP C (m 208) (m 211) s j) (ln_oJ C (m 208) (m 211) s j))) ∨ ∃ m' n', lm_cal sc (d + 8) 26 [.ref 203, .int (Int32.ofNat s)] (lm_w m n x) = some (.ok (some (.int 0)), lm_w m' n' x) ∧ ¬ lm_kAll C (m 208) (384 * (s + 2) + 384 * (s + 2)) (s + 2) ∧ (∀ r, r ≠ 203 → r ≠ 227 → (r < 231 ∨ 267 < r) → m' r = m r) ∧ (∀ j, j ≠ 4 → j ≠ 18 → j ≠ 19 → j ≠ 20 → j ≠ 24 → (j < 32 ∨ 35 < j) → m' 203 j = m 203 j) ∧ (∀ q, q ≠ 203 → q ≠ 223 → q ≠ 224 → q ≠ 225 → q ≠ 226 → q ≠ 230 → n' q = n q) ∧ m' 203 4 = Int32.ofInt 3)) ∨ (¬ lm_ook C (m 208) s l l2 ∧ ∃ m' n', lm_cal sc (d + 8) 26 [.ref 203, .int (Int32.ofNat s)] (lm_w m n x) = some (.ok (some (.int 0)), lm_w m' n' x) ∧ (∀ r, r ≠ 203 → r ≠ 227 → (r < 231 ∨ 267 < r) → m' r = m r) ∧ (∀ j, j ≠ 4 → j ≠ 18 → j ≠ 19 → j ≠ 20 → j ≠ 24 → (j < 32 ∨ 35 < j) → m' 203 j = m 203 j) ∧ (∀ q, q ≠ 203 → q ≠ 223 → q ≠ 224 → q ≠ 225 → q ≠ 226 → q ≠ 230 → n' q = n q) ∧ m' 203 4 = Int32.ofInt 2) := by
  obtain ⟨⟨z1, z2⟩, ⟨z3, z4⟩, z5, z6⟩ := lm_kusz hs
  obtain ⟨m1, c1, a1, a2, a3⟩ := ln_u68 (sc := sc) (d := d + 6) (m := lm_u m 203 4 0) (n := n) (x := x) (s := s) (by omega)
  have r1 : ∀ r, r ≠ 203 → r ≠ 231 → m1 r = m r := fun r q1 q2 => by rw [a1 r q1 q2, lm_u_row q1]
  have k1 : m1 203 32 = Int32.ofNat (s + 2) := by rw [a3.1, Nat.add_comm]
  have f1 : ∀ j, j ≠ 4 → (j < 32 ∨ 35 < j) → m1 203 j = m 203 j := fun j j1 j2 => by rw [a2 j j2, lm_u_ne (fun g => j1 g.2)]
  have e34 : m1 203 34 = Int32.ofNat (lm_ku s) := by rw [a3.2.2.1]; rfl
  have e35 : m1 203 35 = Int32.ofNat (lm_kv s) := by rw [a3.2.2.2.1]; rfl
  have e214 : m1 214 = m 214 := r1 214 (by decide) (by decide)
  have h1 : lm_RK0 C (s + 2) (lm_ke s) m1 n := by
    refine ⟨?_, k1, by rw [a3.2.1]; rfl, a3.2.2.2.2⟩
    rw [← hC]
    unfold lm_cx lm_tb
    rw [r1 221 (by decide) (by decide)]
  have ekp : Int32.ofNat 32 * (Int32.ofNat (lm_ku s) * Int32.ofNat (s + 2) + Int32.ofNat (lm_kv s)) = Int32.ofNat (lm_kps s) := by rw [lm_om, lm_oo, lm_om]; rfl
  have start : ∀ (b : Bool) R, (b = true ↔ l = lm_kps s ∧ l2 = 768 * (s + 2) + 96) → lm_rn sc (d + 7) lm_m26.2.2.2.2.1 (lm_reg lm_m26.2.2.2.2.2) (83, [(0, .ref 203), (2, .int (Int32.ofNat (384 * (s + 2)))), (3, .int (Int32.ofNat (lm_kps s)))], [.int (lm_z b)]) (lm_w m1 n x) = some R → lm_cal sc (d + 8) 26 [.ref 203, .int (Int32.ofNat s)] (lm_w m n x) = some R := by
    intro b R hb K
    refine lm_cal_of (Y := lm_m26) rfl rfl (lm_e26_0 ?_)
    unfold lm_q26_0
    refine lm_cI (lm_t52n (i := s) (d := d + 6) (n := 2) hs (by omega)) ?_
    repeat (first
    | ((with_reducible apply lm_sI); exact rfl)
    | ((with_reducible apply lm_sR); exact rfl)
    | ((with_reducible apply lm_sS); exact rfl; exact rfl)
    | ((with_reducible apply lm_sL); exact rfl)
    | ((with_reducible apply lm_sP); exact rfl; exact rfl)
    | ((with_reducible apply lm_sPL); exact rfl; exact rfl)
    | ((with_reducible apply lm_sAA); exact rfl; first | exact rfl | exact lm_roO (by omega) | exact lm_roM (by omega))
    | ((with_reducible apply lm_sI); exact lm_fpL (by omega))
    | ((with_reducible apply lm_sR); exact lm_fpB (by omega))
    | ((with_reducible apply lm_sP); exact lm_fpL (by omega); exact rfl)
    | ((with_reducible apply lm_sS); exact lm_ocO (by omega); exact rfl)
    | ((with_reducible apply lm_sA); exact rfl; omega)
    | ((with_reducible apply lm_sJ); exact rfl; omega)
    | ((with_reducible apply lm_sB); (first | exact rfl | exact lm_arB (by omega) | exact lm_arM (by omega)); omega)
    | ((with_reducible apply lm_wA); exact rfl; omega)
    | ((with_reducible apply lm_wJ); exact rfl; omega)
    | ((with_reducible apply lm_wB); (first | exact rfl | exact lm_arB (by omega) | exact lm_arM (by omega)); omega)
    | ((with_reducible apply lm_sAl); (first | exact rfl | exact lm_arB (by omega) | exact lm_arM (by omega)); omega)
    | ((with_reducible apply lm_iW); decide))
    refine lm_cI (lm_u49 (d := d + 6) true) ?_
    refine lm_iT (show ¬ (1 : Int32) = 0 by decide) ?_
    repeat (first
    | ((with_reducible apply lm_sI); exact rfl)
    | ((with_reducible apply lm_sR); exact rfl)
    | ((with_reducible apply lm_sS); exact rfl; exact rfl)
    | ((with_reducible apply lm_sL); exact rfl)
    | ((with_reducible apply lm_sP); exact rfl; exact rfl)
    | ((with_reducible apply lm_sPL); exact rfl; exact rfl)
    | ((with_reducible apply lm_sAA); exact rfl; first | exact rfl | exact lm_roO (by omega) | exact lm_roM (by omega))
    | ((with_reducible apply lm_sI); exact lm_fpL (by omega))
    | ((with_reducible apply lm_sR); exact lm_fpB (by omega))
    | ((with_reducible apply lm_sP); exact lm_fpL (by omega); exact rfl)
    | ((with_reducible apply lm_sS); exact lm_ocO (by omega); exact rfl)
    | ((with_reducible apply lm_sA); exact rfl; omega)
    | ((with_reducible apply lm_sJ); exact rfl; omega)
    | ((with_reducible apply lm_sB); (first | exact rfl | exact lm_arB (by omega) | exact lm_arM (by omega)); omega)
    | ((with_reducible apply lm_wA); exact rfl; omega)
    | ((with_reducible apply lm_wJ); exact rfl; omega)
    | ((with_reducible apply lm_wB); (first | exact rfl | exact lm_arB (by omega) | exact lm_arM (by omega)); omega)
    | ((with_reducible apply lm_sAl); (first | exact rfl | exact lm_arB (by omega) | exact lm_arM (by omega)); omega)
    | ((with_reducible apply lm_iW); decide))
    refine lm_cV c1 ?_
    rw [lm_K5, lm_K32, lm_K384, lm_K2]
    repeat (first
    | ((with_reducible apply lm_sI); exact rfl)
    | ((with_reducible apply lm_sR); exact rfl)
    | ((with_reducible apply lm_sS); exact rfl; exact rfl)
    | ((with_reducible apply lm_sL); exact rfl)
    | ((with_reducible apply lm_sP); exact rfl; exact rfl)
    | ((with_reducible apply lm_sPL); exact rfl; exact rfl)
    | ((with_reducible apply lm_sAA); exact rfl; first | exact rfl | exact lm_roO (by omega) | exact lm_roM (by omega))
    | ((with_reducible apply lm_sI); exact lm_fpL (by omega))
    | ((with_reducible apply lm_sR); exact lm_fpB (by omega))
    | ((with_reducible apply lm_sP); exact lm_fpL (by omega); exact rfl)
    | ((with_reducible apply lm_sS); exact lm_ocO (by omega); exact rfl)
    | ((with_reducible apply lm_sA); exact rfl; omega)
    | ((with_reducible apply lm_sJ); exact rfl; omega)
    | ((with_reducible apply lm_sB); (first | exact rfl | exact lm_arB (by omega) | exact lm_arM (by omega)); omega)
    | ((with_reducible apply lm_wA); exact rfl; omega)
    | ((with_reducible apply lm_wJ); exact rfl; omega)
    | ((with_reducible apply lm_wB); (first | exact rfl | exact lm_arB (by omega) | exact lm_arM (by omega)); omega)
    | ((with_reducible apply lm_sAl); (first | exact rfl | exact lm_arB (by omega) | exact lm_arM (by omega)); omega)
    | ((with_reducible apply lm_iW); decide))
    simp only [Nat.reduceDiv, Nat.reduceMod]
    rw [k1, e34, e35, e214, hl, ekp, lm_om]
    by_cases c : l = lm_kps s
    · refine lm_neF (by omega) (by omega) (fun g => g c) ?_
      rw [lm_K768, lm_K96]
      repeat (first
    | ((with_reducible apply lm_sI); exact rfl)
    | ((with_reducible apply lm_sR); exact rfl)
    | ((with_reducible apply lm_sS); exact rfl; exact rfl)
    | ((with_reducible apply lm_sL); exact rfl)
    | ((with_reducible apply lm_sP); exact rfl; exact rfl)
    | ((with_reducible apply lm_sPL); exact rfl; exact rfl)
    | ((with_reducible apply lm_sAA); exact rfl; first | exact rfl | exact lm_roO (by omega) | exact lm_roM (by omega))
    | ((with_reducible apply lm_sI); exact lm_fpL (by omega))
    | ((with_reducible apply lm_sR); exact lm_fpB (by omega))
    | ((with_reducible apply lm_sP); exact lm_fpL (by omega); exact rfl)
    | ((with_reducible apply lm_sS); exact lm_ocO (by omega); exact rfl)
    | ((with_reducible apply lm_sA); exact rfl; omega)
    | ((with_reducible apply lm_sJ); exact rfl; omega)
    | ((with_reducible apply lm_sB); (first | exact rfl | exact lm_arB (by omega) | exact lm_arM (by omega)); omega)
    | ((with_reducible apply lm_wA); exact rfl; omega)
    | ((with_reducible apply lm_wJ); exact rfl; omega)
    | ((with_reducible apply lm_wB); (first | exact rfl | exact lm_arB (by omega) | exact lm_arM (by omega)); omega)
    | ((with_reducible apply lm_sAl); (first | exact rfl | exact lm_arB (by omega) | exact lm_arM (by omega)); omega)
    | ((with_reducible apply lm_iW); decide))
      simp only [Nat.reduceDiv, Nat.reduceMod]
      rw [e214, hl2, k1, lm_om, lm_oo]
      by_cases c' : l2 = 768 * (s + 2) + 96
      · have : b = true := hb.mpr ⟨c, c'⟩
        subst this
        exact lm_neF (by omega) (by omega) (fun g => g c') K
      · have : b = false := by
          cases b with
          | true => exact absurd (hb.mp rfl).2 c'
          | false => rfl
        subst this
        refine lm_neT (by omega) (by omega) c' (lm_e26_82 ?_)
        exact K
    · have : b = false := by
        cases b with
        | true => exact absurd (hb.mp rfl).1 c
        | false => rfl
      subst this
      refine lm_neT (by omega) (by omega) c (lm_e26_82 ?_)
      exact K
  have stop : ∀ (m3 : lm_MI) (n3 : lm_ML), lm_rn sc (d + 7) lm_m26.2.2.2.2.1 (lm_reg lm_m26.2.2.2.2.2) (146, [(0, .ref 203), (2, .int (Int32.ofNat (384 * (s + 2)))), (3, .int (Int32.ofNat (lm_kps s))), (4, .int (lm_z false))], []) (lm_w m3 n3 x) = some (.ok (some (.int 0)), lm_w (lm_u m3 203 4 (Int32.ofInt 2)) n3 x) := by
    intro m3 n3
    refine lm_e26_146 ?_
    unfold lm_q26_146
    repeat (first
    | ((with_reducible apply lm_sI); exact rfl)
    | ((with_reducible apply lm_sR); exact rfl)
    | ((with_reducible apply lm_sS); exact rfl; exact rfl)
    | ((with_reducible apply lm_sL); exact rfl)
    | ((with_reducible apply lm_sP); exact rfl; exact rfl)
    | ((with_reducible apply lm_sPL); exact rfl; exact rfl)
    | ((with_reducible apply lm_sAA); exact rfl; first | exact rfl | exact lm_roO (by omega) | exact lm_roM (by omega))
    | ((with_reducible apply lm_sI); exact lm_fpL (by omega))
    | ((with_reducible apply lm_sR); exact lm_fpB (by omega))
    | ((with_reducible apply lm_sP); exact lm_fpL (by omega); exact rfl)
    | ((with_reducible apply lm_sS); exact lm_ocO (by omega); exact rfl)
    | ((with_reducible apply lm_sA); exact rfl; omega)
    | ((with_reducible apply lm_sJ); exact rfl; omega)
    | ((with_reducible apply lm_sB); (first | exact rfl | exact lm_arB (by omega) | exact lm_arM (by omega)); omega)
    | ((with_reducible apply lm_wA); exact rfl; omega)
    | ((with_reducible apply lm_wJ); exact rfl; omega)
    | ((with_reducible apply lm_wB); (first | exact rfl | exact lm_arB (by omega) | exact lm_arM (by omega)); omega)
    | ((with_reducible apply lm_sAl); (first | exact rfl | exact lm_arB (by omega) | exact lm_arM (by omega)); omega)
    | ((with_reducible apply lm_iW); decide))
    refine lm_cI (lm_u49 (d := d + 6) false) ?_
    refine lm_iF (show ¬ ¬ (0 : Int32) = 0 by decide) ?_
    rfl
  by_cases cl : l = lm_kps s ∧ l2 = 768 * (s + 2) + 96
  · obtain ⟨m4, n4, c4, s4, f4⟩ := lm_rS (sc := sc) (d := d + 5) (x := x) (k := 8) (G := fun t => lm_b8 (m 208 (384 * (s + 2) + t))) h1.1 (by decide) (by decide)
    have C4 := f4.cx.trans h1.1
    obtain ⟨m5, n5, c5, s5, f5⟩ := lm_rA (sc := sc) (d := d + 3) (x := x) (k := 8) (q := 208) (v := 65536) (a := 384 * (s + 2)) (l := 384 * (s + 2) + 32) (L := 0) (G := fun t => lm_b8 (m 208 (384 * (s + 2) + t))) C4 (by decide) (by decide) rfl (by omega) (by decide) (fun t ht => by
      rw [f4.1 208 (by decide) (by decide), r1 208 (by decide) (by decide)]
      simp only [Nat.zero_add]) s4
    have C5 := f5.cx.trans C4
    rw [Nat.zero_add] at s5
    obtain ⟨m6, n6, c6, f6⟩ := lm_rG (sc := sc) (d := d + 2) (x := x) (k := 8) (q := 263) (v := 256) (a := 0) (l := 32) C5 (by decide) (by decide) rfl (by decide) (by decide) (fun h => absurd h (by decide)) s5
    generalize eM6 : lm_fil m6 263 0 (0 + 32) (fun i => lm_Hm C 8 (fun t => lm_b8 (m 208 (384 * (s + 2) + t))) (384 * (s + 2) + 32) (i - 0)) = M6 at c6
    have r6 : ∀ r, r ≠ 263 → M6 r = m6 r := fun r hr => by rw [← eM6, lm_fl_row hr]
    have fh6 : lm_fh m1 n m6 n6 := f4.tr (f5.tr f6)
    have v6 : ∀ i, i < 32 → M6 263 i = lm_kH C (m 208) (384 * (s + 2)) (s + 2) i := fun i hi => by
      rw [← eM6, lm_fl_in (by omega), Nat.sub_zero]
      rfl
    have rr : ∀ r, r ≠ 203 → r ≠ 227 → r ≠ 263 → M6 r = m1 r := fun r q1 q2 q3 => by rw [r6 r q3, fh6.1 r q1 q2]
    have B6 : lm_fB m1 n M6 n6 := ⟨fun j j1 j2 j3 _ => by rw [r6 203 (by decide), fh6.2.1 j j1 j2 j3], fun q q1 q2 q3 q4 q5 _ => fh6.2.2 q q1 q2 q3 q4 q5⟩
    have h6 := h1.keepB B6 (rr 221 (by decide) (by decide) (by decide)) (rr 231 (by decide) (by decide) (by decide))
    have e208 : M6 208 = m 208 := by rw [rr 208 (by decide) (by decide) (by decide), r1 208 (by decide) (by decide)]
    have e211 : M6 211 = m 211 := by rw [rr 211 (by decide) (by decide) (by decide), r1 211 (by decide) (by decide)]
    have c7 := lm_u80 (sc := sc) (d := d + 6) (m := M6) (n := n6) (x := x) (a := 0) (l := 32) (p := 263) (q := 208) (s := 256) (r := 65536) (b := 768 * (s + 2) + 32) rfl rfl (by decide) (by omega)
    have ev : lm_ev (fun t => lm_b8 (M6 263 (0 + t))) (fun t => lm_b8 (M6 208 (768 * (s + 2) + 32 + t))) 32 0 = true ↔ lm_kok C (m 208) (s + 2) := by
      rw [lm_ev_t]
      unfold lm_kok
      constructor
      · intro h t ht
        have := h t ht
        simp only [Nat.zero_add] at this
        rw [v6 t ht, e208] at this
        exact this
      · intro h t ht
        simp only [Nat.zero_add]
        rw [v6 t ht, e208]
        exact h t ht
    have w32 : Int32.ofNat 2 * Int32.ofNat (384 * (s + 2)) + Int32.ofNat 32 = Int32.ofNat (768 * (s + 2) + 32) := by rw [lm_om, lm_oo, ← Nat.mul_assoc]
    have mid : ∀ R, lm_rn sc (d + 7) lm_m26.2.2.2.2.1 (lm_reg lm_m26.2.2.2.2.2) (146, [(0, .ref 203), (2, .int (Int32.ofNat (384 * (s + 2)))), (3, .int (Int32.ofNat (lm_kps s))), (4, .int (lm_z (lm_ev (fun t => lm_b8 (M6 263 (0 + t))) (fun t => lm_b8 (M6 208 (768 * (s + 2) + 32 + t))) 32 0)))], []) (lm_w M6 n6 x) = some R → lm_cal sc (d + 8) 26 [.ref 203, .int (Int32.ofNat s)] (lm_w m n x) = some R := by
      intro R K
      refine start true R (by simp [cl]) (lm_e26_83 ?_)
      unfold lm_q26_83
      refine lm_iF (show ¬ (1 : Int32) = 0 by decide) ?_
      rw [lm_K8, lm_K2, lm_K32, lm_K0, lm_oo, w32]
      repeat (first
    | ((with_reducible apply lm_sI); exact rfl)
    | ((with_reducible apply lm_sR); exact rfl)
    | ((with_reducible apply lm_sS); exact rfl; exact rfl)
    | ((with_reducible apply lm_sL); exact rfl)
    | ((with_reducible apply lm_sP); exact rfl; exact rfl)
    | ((with_reducible apply lm_sPL); exact rfl; exact rfl)
    | ((with_reducible apply lm_sAA); exact rfl; exact rfl)
    | ((with_reducible apply lm_sA); (first | exact rfl | assumption); omega)
    | ((with_reducible apply lm_sJ); (first | exact rfl | assumption); omega)
    | ((with_reducible apply lm_sB); (first | exact rfl | assumption); omega)
    | ((with_reducible apply lm_wA); (first | exact rfl | assumption); omega)
    | ((with_reducible apply lm_wJ); (first | exact rfl | assumption); omega)
    | ((with_reducible apply lm_wB); (first | exact rfl | assumption); omega)
    | ((with_reducible apply lm_sAl); (first | exact rfl | assumption); omega)
    | ((with_reducible apply lm_iW); decide))
      refine lm_cV c4 ?_
      repeat (first
    | ((with_reducible apply lm_sI); exact rfl)
    | ((with_reducible apply lm_sR); exact rfl)
    | ((with_reducible apply lm_sS); exact rfl; exact rfl)
    | ((with_reducible apply lm_sL); exact rfl)
    | ((with_reducible apply lm_sP); exact rfl; exact rfl)
    | ((with_reducible apply lm_sPL); exact rfl; exact rfl)
    | ((with_reducible apply lm_sAA); exact rfl; exact rfl)
    | ((with_reducible apply lm_sA); (first | exact rfl | assumption); omega)
    | ((with_reducible apply lm_sJ); (first | exact rfl | assumption); omega)
    | ((with_reducible apply lm_sB); (first | exact rfl | assumption); omega)
    | ((with_reducible apply lm_wA); (first | exact rfl | assumption); omega)
    | ((with_reducible apply lm_wJ); (first | exact rfl | assumption); omega)
    | ((with_reducible apply lm_wB); (first | exact rfl | assumption); omega)
    | ((with_reducible apply lm_sAl); (first | exact rfl | assumption); omega)
    | ((with_reducible apply lm_iW); decide))
      refine lm_cV c5 ?_
      repeat (first
    | ((with_reducible apply lm_sI); exact rfl)
    | ((with_reducible apply lm_sR); exact rfl)
    | ((with_reducible apply lm_sS); exact rfl; exact rfl)
    | ((with_reducible apply lm_sL); exact rfl)
    | ((with_reducible apply lm_sP); exact rfl; exact rfl)
    | ((with_reducible apply lm_sPL); exact rfl; exact rfl)
    | ((with_reducible apply lm_sAA); exact rfl; exact rfl)
    | ((with_reducible apply lm_sA); (first | exact rfl | assumption); omega)
    | ((with_reducible apply lm_sJ); (first | exact rfl | assumption); omega)
    | ((with_reducible apply lm_sB); (first | exact rfl | assumption); omega)
    | ((with_reducible apply lm_wA); (first | exact rfl | assumption); omega)
    | ((with_reducible apply lm_wJ); (first | exact rfl | assumption); omega)
    | ((with_reducible apply lm_wB); (first | exact rfl | assumption); omega)
    | ((with_reducible apply lm_sAl); (first | exact rfl | assumption); omega)
    | ((with_reducible apply lm_iW); decide))
      refine lm_cV c6 ?_
      repeat (first
    | ((with_reducible apply lm_sI); exact rfl)
    | ((with_reducible apply lm_sR); exact rfl)
    | ((with_reducible apply lm_sS); exact rfl; exact rfl)
    | ((with_reducible apply lm_sL); exact rfl)
    | ((with_reducible apply lm_sP); exact rfl; exact rfl)
    | ((with_reducible apply lm_sPL); exact rfl; exact rfl)
    | ((with_reducible apply lm_sAA); exact rfl; exact rfl)
    | ((with_reducible apply lm_sA); (first | exact rfl | assumption); omega)
    | ((with_reducible apply lm_sJ); (first | exact rfl | assumption); omega)
    | ((with_reducible apply lm_sB); (first | exact rfl | assumption); omega)
    | ((with_reducible apply lm_wA); (first | exact rfl | assumption); omega)
    | ((with_reducible apply lm_wJ); (first | exact rfl | assumption); omega)
    | ((with_reducible apply lm_wB); (first | exact rfl | assumption); omega)
    | ((with_reducible apply lm_sAl); (first | exact rfl | assumption); omega)
    | ((with_reducible apply lm_iW); decide))
      exact lm_cI c7 K
    generalize lm_ev (fun t => lm_b8 (M6 263 (0 + t))) (fun t => lm_b8 (M6 208 (768 * (s + 2) + 32 + t))) 32 0 = bb at *
    have f34 : M6 203 34 = Int32.ofNat (lm_ku s) := by rw [B6.1 34 (by decide) (by decide) (by decide) (by decide)]; exact e34
    have f35 : M6 203 35 = Int32.ofNat (lm_kv s) := by rw [B6.1 35 (by decide) (by decide) (by decide) (by decide)]; exact e35
    cases bb with
    | true =>
      refine Or.inl ⟨⟨cl.1, cl.2, ev.mp rfl⟩, ?_⟩
      obtain ⟨m7, n7, g1, g2, g3, g4, g5, k7⟩ := lm_l26c (sc := sc) (d := d) (x := x) (m := M6) (n := n6) hs h6 f34 f35
      rw [e208, e211] at g5
      have g208 : m7 208 = m 208 := by rw [g1 208 (by decide) (by decide) (by decide), e208]
      have g211 : m7 211 = m 211 := by rw [g1 211 (by decide) (by decide) (by decide), e211]
      have h7 : lm_RK0 C (s + 2) (lm_ke s) m7 n7 := by
        refine ⟨?_, by rw [g2 32 (by decide) (by decide) (by decide) (by decide) (by decide)]; exact h6.2.1, by rw [g2 33 (by decide) (by decide) (by decide) (by decide) (by decide)]; exact h6.2.2.1, by rw [g1 231 (by decide) (by decide) (by decide)]; exact h6.2.2.2⟩
        rw [← h6.1]
        unfold lm_cx lm_tb
        rw [g1 221 (by decide) (by decide) (by decide), g3 215 (by decide) (by decide) (by decide) (by decide) (by decide) (by decide), g3 217 (by decide) (by decide) (by decide) (by decide) (by decide) (by decide), g3 218 (by decide) (by decide) (by decide) (by decide) (by decide) (by decide), g3 222 (by decide) (by decide) (by decide) (by decide) (by decide) (by decide), g3 216 (by decide) (by decide) (by decide) (by decide) (by decide) (by decide)]
      have qr : ∀ r, r ≠ 203 → r ≠ 227 → (r < 231 ∨ 267 < r) → m7 r = m r := fun r q1 q2 q3 => by rw [g1 r q1 (by omega) (by omega), rr r q1 q2 (by omega), r1 r q1 (by omega)]
      have qf : ∀ j, j ≠ 4 → j ≠ 18 → j ≠ 19 → j ≠ 20 → j ≠ 24 → (j < 32 ∨ 35 < j) → m7 203 j = m 203 j := fun j j1 j2 j3 j4 j5 j6 => by rw [g2 j j1 j2 j3 j4 j5, B6.1 j j2 j3 j4 j5, f1 j j1 j6]
      have qn : ∀ q, q ≠ 203 → q ≠ 223 → q ≠ 224 → q ≠ 225 → q ≠ 226 → q ≠ 230 → n7 q = n q := fun q q1 q2 q3 q4 q5 q6 => by rw [g3 q q1 q2 q3 q4 q5 q6, B6.2 q q1 q2 q3 q4 q5 q6]
      rcases lm_l26b (sc := sc) (d := d) (x := x) (m := m7) (n := n7) (C := C) (s := s) hs h7 (by rw [g2 34 (by decide) (by decide) (by decide) (by decide) (by decide)]; exact f34) (by rw [g2 35 (by decide) (by decide) (by decide) (by decide) (by decide)]; exact f35) (by rw [g208, g211]; exact g5) g4 with ⟨m8, n8, b, t0, t1, t2, t3, t4, t5, t6, t7, t8, t9⟩ | ⟨m8, n8, t0, t1, t2, t3, t4, t5⟩
      · rw [g208] at t1 t8 t9
        rw [g211] at t8 t9
        exact Or.inl ⟨m8, n8, b, mid _ (k7 _ t0), t1, fun r q1 q2 q3 q4 q5 => by rw [t2 r q1 q2 q3 q4 q5, qr r q1 q4 q5], fun j j1 j2 j3 j4 j5 j6 => by rw [t3 j j1 j2 j3 j4 j5, qf j j1 j2 j3 j4 j5 j6], fun q q1 q2 q3 q4 q5 q6 => by rw [t4 q q1 q2 q3 q4 q5 q6, qn q q1 q2 q3 q4 q5 q6], t5, fun j hj => by rw [t6 j hj, qr 214 (by decide) (by decide) (by decide)], t7, t8, t9⟩
      · rw [g208] at t1
        exact Or.inr ⟨m8, n8, mid _ (k7 _ t0), t1, fun r q1 q2 q3 => by rw [t2 r q1 q2 q3, qr r q1 q2 q3], fun j j1 j2 j3 j4 j5 j6 => by rw [t3 j j1 j2 j3 j4 j5, qf j j1 j2 j3 j4 j5 j6], fun q q1 q2 q3 q4 q5 q6 => by rw [t4 q q1 q2 q3 q4 q5 q6, qn q q1 q2 q3 q4 q5 q6], t5⟩
    | false =>
      refine Or.inr ⟨fun g => absurd (ev.mpr g.2.2) (by decide), _, _, mid _ (stop M6 n6), fun r q1 q2 q3 => by rw [lm_u_row q1, rr r q1 q2 (by omega), r1 r q1 (by omega)], fun j j1 j2 j3 j4 j5 j6 => by rw [lm_u_ne (fun g => j1 g.2), B6.1 j j2 j3 j4 j5, f1 j j1 j6], fun q q1 q2 q3 q4 q5 q6 => B6.2 q q1 q2 q3 q4 q5 q6, lm_u_eq⟩
  · refine Or.inr ⟨fun g => cl ⟨g.1, g.2.1⟩, _, _, start false _ (by simp only [Bool.false_eq_true, false_iff]; exact cl) (lm_e26_83 (lm_iT (show (0 : Int32) = 0 by decide) (stop m1 n))), fun r q1 q2 q3 => by rw [lm_u_row q1, r1 r q1 (by omega)], fun j j1 _ _ _ _ j6 => by rw [lm_u_ne (fun g => j1 g.2), f1 j j1 j6], fun q _ _ _ _ _ _ => rfl, lm_u_eq⟩
end LMRG
