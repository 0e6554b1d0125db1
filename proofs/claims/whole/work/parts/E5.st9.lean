/-! ===== kemKeys: one call of both ===== -/
section LMS9
variable {sc : lm_H} {xs : List Int32} {C : lm_CX} {d s : Nat} {m m1 m2 : lm_MI} {n n1 n2 : lm_ML} {x : lm_H × Nat × Nat} {v : Int32} {R R' : Nat → Int32}
theorem ln_kP_ext {k : Nat} (h : ∀ t, t < 32 → lm_b8 (R t) = lm_b8 (R' t)) : ln_kP C R k = ln_kP C R' k := by
  unfold ln_kP
  have : ln_g33 R k = ln_g33 R' k := by
    funext i
    unfold ln_g33
    by_cases c : i < 32
    · rw [if_pos c, if_pos c, h i c]
    · rw [if_neg c, if_neg c]
  rw [this]
theorem lm_sec_ext {P : Nat → Int32} {e k j : Nat} (h : ∀ t, t < 32 → lm_b8 (R (32 + t)) = lm_b8 (R' (32 + t))) (hj : j < 768 * k + 96) : lm_sec C P R e k j = lm_sec C P R' e k j := by
  unfold lm_sec
  by_cases c1 : j < 384 * k
  · rw [if_pos c1, if_pos c1]
  · rw [if_neg c1, if_neg c1]
    by_cases c2 : j < 768 * k + 32
    · rw [if_pos c2, if_pos c2]
    · rw [if_neg c2, if_neg c2]
      by_cases c3 : j < 768 * k + 64
      · rw [if_pos c3, if_pos c3]
      · rw [if_neg c3, if_neg c3]
        exact lm_b8_ne (h _ (by omega))
/-- kemKeys of the reference, its arguments good -/
theorem lm_u22c (hC : lm_cx m n = C) (hs : s ≤ 2) (h64 : m 214 0 = Int32.ofNat 64) : (∃ m' n', lm_cal sc (d + 7) 22 [.ref 203, .int (Int32.ofNat s)] (lm_w m n x) = some (.ok (some (.int (Int32.ofNat (768 * (s + 2) + 96)))), lm_w m' n' x) ∧ lm_kAll C (ln_kP C (m 206) (s + 2)) 0 (s + 2) ∧ (∀ r, r ≠ 203 → r ≠ 207 → r ≠ 208 → r ≠ 214 → r ≠ 227 → (r < 231 ∨ 265 < r) → m' r = m r) ∧ (∀ j, j ≠ 4 → j ≠ 18 → j ≠ 19 → j ≠ 20 → j ≠ 24 → (j < 32 ∨ 35 < j) → m' 203 j = m 203 j) ∧ (∀ q, q ≠ 203 → q ≠ 223 → q ≠ 224 → q ≠ 225 → q ≠ 226 → q ≠ 230 → n' q = n q) ∧ m' 203 4 = 0 ∧ (∀ j, j ≠ 1 → j ≠ 2 → m' 214 j = m 214 j) ∧ m' 214 1 = Int32.ofNat (384 * (s + 2) + 32) ∧ m' 214 2 = Int32.ofNat (768 * (s + 2) + 96) ∧ (∀ j, j < 384 * (s + 2) + 32 → lm_yb (m' 207 j) = lm_pub C (ln_kP C (m 206) (s + 2)) (lm_ke s) (s + 2) j) ∧ ∀ j, j < 768 * (s + 2) + 96 → lm_yb (m' 208 j) = lm_sec C (ln_kP C (m 206) (s + 2)) (m 206) (lm_ke s) (s + 2) j) ∨ ∃ m' n', lm_cal sc (d + 7) 22 [.ref 203, .int (Int32.ofNat s)] (lm_w m n x) = some (.ok (some (.int 0)), lm_w m' n' x) ∧ ¬ lm_kAll C (ln_kP C (m 206) (s + 2)) 0 (s + 2) ∧ (∀ r, r ≠ 203 → r ≠ 227 → (r < 231 ∨ 265 < r) → m' r = m r) ∧ (∀ j, j ≠ 4 → j ≠ 18 → j ≠ 19 → j ≠ 20 → j ≠ 24 → (j < 32 ∨ 35 < j) → m' 203 j = m 203 j) ∧ (∀ q, q ≠ 203 → q ≠ 223 → q ≠ 224 → q ≠ 225 → q ≠ 226 → q ≠ 230 → n' q = n q) ∧ m' 203 4 = Int32.ofInt 3 := by
  obtain ⟨m1, n1, h1, a4, aP, aR, aF, aN, K0⟩ := lm_l22f (sc := sc) (d := d) (x := x) hC hs h64
  have e206 : m1 206 = m 206 := aR 206 (by decide) (by decide) (by decide) (by decide)
  have e214 : m1 214 = m 214 := aR 214 (by decide) (by decide) (by decide) (by decide)
  generalize eP : ln_kP C (m 206) (s + 2) = P at *
  have hP : ∀ i, i < 64 → lm_b8 (m1 263 i) = lm_b8 (P i) := fun i hi => by rw [aP i hi]
  obtain ⟨m2, n2, ⟨b1, b2, b3⟩, K1⟩ := lm_l22a (sc := sc) (d := d) (x := x) (P := P) h1 (lm_ke_2 hs) (by omega) hP
  have h2 := h1.keep b2 (b1 221 (by decide) (by decide) (by decide) (by decide)) (b1 231 (by decide) (by decide) (by decide) (by decide))
  have h42 : m2 203 4 = 0 := (b2.1 4 (by decide) (by decide) (by decide)).trans a4
  generalize eM3 : lm_u m2 203 24 (Int32.ofNat 0) = M3
  have r3 : ∀ r, r ≠ 203 → M3 r = m2 r := fun r hr => by rw [← eM3, lm_u_row hr]
  have f3 : ∀ j, j ≠ 24 → M3 203 j = m2 203 j := fun j hj => by rw [← eM3, lm_u_ne (fun g => hj g.2)]
  have B3 : lm_fB m2 n2 M3 n2 := .p f3
  have h3 := h2.keepB B3 (r3 221 (by decide)) (r3 231 (by decide))
  have frA : ∀ r, r ≠ 203 → r ≠ 227 → (r < 231 ∨ 265 < r) → M3 r = m r := fun r q1 q2 q3 => by rw [r3 r q1, b1 r q1 q2 (by omega) (by omega), aR r q1 q2 (by omega) (by omega)]
  have frF : ∀ j, j ≠ 4 → j ≠ 18 → j ≠ 19 → j ≠ 20 → j ≠ 24 → (j < 32 ∨ 35 < j) → M3 203 j = m 203 j := fun j j1 j2 j3 j4 j5 j6 => by rw [f3 j j5, b2.1 j j2 j3 j4, aF j j1 j2 j3 j4 j6]
  have frN : ∀ q, q ≠ 203 → q ≠ 223 → q ≠ 224 → q ≠ 225 → q ≠ 226 → q ≠ 230 → n2 q = n q := fun q q1 q2 q3 q4 q5 q6 => by rw [b2.2 q q1 q2 q3 q4 q5 q6, aN q q1 q2 q3 q4 q5 q6]
  have head : ∀ R, lm_rn sc (d + 6) lm_m22.2.2.2.2.1 (lm_reg lm_m22.2.2.2.2.2) (137, [(0, .ref 203), (2, .int (Int32.ofNat 0))], []) (lm_w M3 n2 x) = some R → lm_cal sc (d + 7) 22 [.ref 203, .int (Int32.ofNat s)] (lm_w m n x) = some R := by
    intro R K
    refine K0 R (K1 R (lm_e22_85 ?_))
    unfold lm_q22_85
    repeat (first
    | ((with_reducible apply lm_sI); exact rfl)
    | ((with_reducible apply lm_sR); exact rfl)
    | ((with_reducible apply lm_sS); exact rfl; exact rfl)
    | ((with_reducible apply lm_sL); exact rfl)
    | ((with_reducible apply lm_sP); exact rfl; exact rfl)
    | ((with_reducible apply lm_sPL); exact rfl; exact rfl)
    | ((with_reducible apply lm_sAA); exact rfl; exact rfl)
    | ((with_reducible apply lm_sA); (first | exact rfl | assumption); omega)
    | ((with_reducible apply lm_sJ); (first | exact rfl | assumption); omega)
    | ((with_reducible apply lm_sB); (first | exact rfl | assumption); omega)
    | ((with_reducible apply lm_wA); (first | exact rfl | assumption); omega)
    | ((with_reducible apply lm_wJ); (first | exact rfl | assumption); omega)
    | ((with_reducible apply lm_wB); (first | exact rfl | assumption); omega)
    | ((with_reducible apply lm_sAl); (first | exact rfl | assumption); omega)
    | ((with_reducible apply lm_iW); decide))
    simp only [Nat.reduceDiv, Nat.reduceMod]
    rw [h2.2.1]
    refine lm_geT (by omega) (by omega) (by omega) ?_
    rw [lm_K0]
    repeat (first
    | ((with_reducible apply lm_sI); exact rfl)
    | ((with_reducible apply lm_sR); exact rfl)
    | ((with_reducible apply lm_sS); exact rfl; exact rfl)
    | ((with_reducible apply lm_sL); exact rfl)
    | ((with_reducible apply lm_sP); exact rfl; exact rfl)
    | ((with_reducible apply lm_sPL); exact rfl; exact rfl)
    | ((with_reducible apply lm_sAA); exact rfl; exact rfl)
    | ((with_reducible apply lm_sA); (first | exact rfl | assumption); omega)
    | ((with_reducible apply lm_sJ); (first | exact rfl | assumption); omega)
    | ((with_reducible apply lm_sB); (first | exact rfl | assumption); omega)
    | ((with_reducible apply lm_wA); (first | exact rfl | assumption); omega)
    | ((with_reducible apply lm_wJ); (first | exact rfl | assumption); omega)
    | ((with_reducible apply lm_wB); (first | exact rfl | assumption); omega)
    | ((with_reducible apply lm_sAl); (first | exact rfl | assumption); omega)
    | ((with_reducible apply lm_iW); decide))
    rw [eM3]
    exact K
  have h263 : M3 263 = m1 263 := by rw [r3 263 (by decide), b1 263 (by decide) (by decide) (by decide) (by decide)]
  rcases lm_l22d (sc := sc) (d := d) (x := x) (P := P) (m := M3) (n := n2) h3 (by rw [f3 4 (by decide)]; exact h42) (lm_ke_2 hs) (by omega) (by omega) (fun i hi => by rw [h263]; exact hP i hi) (fun j hj c hc => by rw [r3 _ (by omega)]; exact b3 j hj c hc) (by rw [← eM3, lm_u_eq]) with ⟨m4, n4, ⟨g1, g2, g3, g4, g5⟩, k4⟩ | ⟨R, ⟨m4, n4, eR, g1, g2, g3, g4, i, j, hi, hj, hn⟩, k4⟩
  · have h4 := h3.keepB g2 (g1 221 (by decide) (by decide) (by decide) (by decide) (by decide)) (g1 231 (by decide) (by decide) (by decide) (by decide) (by decide))
    have e4 : m4 206 = m 206 := by rw [g1 206 (by decide) (by decide) (by decide) (by decide) (by decide), frA 206 (by decide) (by decide) (by decide)]
    obtain ⟨m5, n5, c5, d1, d2, d3, d4, d5, d6, d7⟩ := lm_l22g (sc := sc) (d := d) (x := x) (P := P) (R := m 206) (n := n4) h4 (by omega) (fun i hi => by rw [g1 263 (by decide) (by decide) (by decide) (by decide) (by decide), h263]; exact hP i hi) (fun i c hi hc => by rw [g1 _ (by omega) (by omega) (by omega) (by omega) (by omega), r3 _ (by omega)]; exact b3 i hi c hc) g4 (fun t ht => by rw [e4])
    refine Or.inl ⟨m5, n5, head _ (k4 _ c5), fun i j hi hj => g5 i j hi hj, fun r q1 q2 q3 q4 q5 q6 => ?_, fun j j1 j2 j3 j4 j5 j6 => ?_, fun q q1 q2 q3 q4 q5 q6 => ?_, ?_, fun j j1 j2 => ?_, d4, d5, d6, d7⟩
    · rw [d1 r q1 q2 q3 q4 q5 (by omega), g1 r q1 q5 (by omega) (by omega) (by omega), frA r q1 q5 q6]
    · rw [d2.1 j j2 j3 j4 j5, g2.1 j j2 j3 j4 j5, frF j j1 j2 j3 j4 j5 j6]
    · rw [d2.2 q q1 q2 q3 q4 q5 q6, g2.2 q q1 q2 q3 q4 q5 q6, frN q q1 q2 q3 q4 q5 q6]
    · rw [d2.1 4 (by decide) (by decide) (by decide) (by decide), g2.1 4 (by decide) (by decide) (by decide) (by decide), f3 4 (by decide)]
      exact h42
    · rw [d3 j j1 j2, g1 214 (by decide) (by decide) (by decide) (by decide) (by decide), frA 214 (by decide) (by decide) (by decide)]
  · rw [eR] at k4
    refine Or.inr ⟨m4, n4, head _ k4, fun g => hn (g i j hi hj), fun r q1 q2 q3 => ?_, fun j j1 j2 j3 j4 j5 j6 => ?_, fun q q1 q2 q3 q4 q5 q6 => ?_, g4⟩
    · rw [g1 r q1 q2 (by omega) (by omega) (by omega), frA r q1 q2 q3]
    · rw [g2 j j1 j2 j3 j4 j5, frF j j1 j2 j3 j4 j5 j6]
    · rw [g3 q q1 q2 q3 q4 q5 q6, frN q q1 q2 q3 q4 q5 q6]
/-- the context is kept by a call of the class -/
theorem lm_fN.cx (h : lm_fN m n m1 n1) (e : m1 221 = m 221) : lm_cx m1 n1 = lm_cx m n := by
  unfold lm_cx lm_tb
  rw [e, h.1 222 (by decide), h.1 216 (by decide), h.1 215 (by decide), h.1 217 (by decide), h.1 218 (by decide)]
/-- the tie and the constants behind a call of both, the slots of J being new -/
theorem lm_tk {J : Nat → Bool} (h : lm_Tie m) (f2 : lm_fN m n m1 n1) (f1 : ∀ q, q = 2 ∨ q = 3 ∨ q = 45 ∨ q = 46 ∨ q = 77 ∨ 202 < q → m1 q = m q) (fs : ∀ j, j < 8 → J j = false → m1 (26 + 2 * j) = m (26 + 2 * j) ∧ m1 (27 + 2 * j) = m (27 + 2 * j)) (g1 : ∀ q, q < 203 ∨ q = 204 ∨ (214 < q ∧ q < 223) → m2 q = m1 q) (g3 : m2 203 3 = m1 203 3) (gn : ∀ q, q < 203 ∨ (203 < q ∧ q < 223) → n2 q = n1 q) (gs : ∀ j, j < 8 → J j = false → m2 214 j = m1 214 j ∧ m2 (206 + j) = m1 (206 + j)) (ts : ∀ j, j < 8 → J j = true → lm_TieS m2 j) : lm_Tie m2 ∧ lm_kp m n m2 n2 := by
  refine ⟨⟨?_, fun j hj => ?_⟩, ?_, ?_, ?_⟩
  · refine h.1.of ?_ ?_ ?_ ?_
    · rw [g1 2 (by decide), f1 2 (by decide)]
    · rw [g3, f1 203 (by decide)]
    · rw [g1 3 (by decide), f1 3 (by decide)]
    · rw [g1 204 (by decide), f1 204 (by decide)]
  · cases c : J j with
    | true => exact ts j hj c
    | false =>
      obtain ⟨p1, p2⟩ := fs j hj c
      obtain ⟨q1, q2⟩ := gs j hj c
      refine (h.2 j hj).of ?_ ?_ ?_ ?_
      · rw [g1 (26 + 2 * j) (by omega), p1]
      · rw [q1, f1 214 (by decide)]
      · rw [g1 (27 + 2 * j) (by omega), p2]
      · rw [q2, f1 (206 + j) (by omega)]
  · intro q hq
    simp only [lm_cst, List.mem_cons, List.mem_nil_iff, or_false] at hq
    refine ⟨by rw [g1 q (by omega), f1 q (by omega)], by rw [gn q (by omega), f2.1 q (by omega)]⟩
  · rw [g1 11 (by decide)]
    exact f2.2.1
  · rw [g1 17 (by decide)]
    exact f2.2.2
theorem lm_j12 : ∀ j, j < 8 → (decide (j = 1) || decide (j = 2)) = true → j = 1 ∨ j = 2 := by decide
theorem lm_j12f : ∀ j, j < 8 → (decide (j = 1) || decide (j = 2)) = false → j ≠ 1 ∧ j ≠ 2 := by decide
theorem lm_st9 (hc : lm_Con m n) (h : lm_Tie m) : lm_Stp (lm_sc xs) 21 22 [.int v] m n x := by
  intro r hr
  have hx := lm_rm_room hr
  rcases lm_range v (n := 2) (by omega) with ⟨s, hs, e⟩ | e
  · subst e
    obtain ⟨l, a1, a2, a3, a4⟩ := h.2 0 (by decide)
    by_cases c64 : l = 64
    · subst c64
      have eP : ln_kP (lm_cx m n) (m 27) (s + 2) = ln_kP (lm_cx m n) (m 206) (s + 2) := ln_kP_ext (fun t ht => a4 t (by omega))
      rcases lm_u67c (xs := xs) (d := 591) (x := x) (n := n) (hc.cok xs) hc.rt hc.ktb hx hs a2 with ⟨m1, n1, c1, b1, b2, b3, b4, b5, b6, b7⟩ | ⟨m1, n1, c1, b1, b2, b3⟩
      · have C1 : lm_cx m1 n1 = lm_cx m n := b3.cx (b2 221 (by decide) (by decide) (by decide) (by decide) (by decide) (by decide) (by decide))
        have e206 : m1 206 = m 206 := b2 206 (by decide) (by decide) (by decide) (by decide) (by decide) (by decide) (by decide)
        have e214 : m1 214 = m 214 := b2 214 (by decide) (by decide) (by decide) (by decide) (by decide) (by decide) (by decide)
        rcases lm_u22c (sc := lm_sc xs) (d := 593) (x := lm_so (Int32.ofNat (768 * (s + 2) + 96)).toInt64 x) (m := m1) (n := n1) C1 hs (by rw [e214]; exact a3) with ⟨m2, n2, c2, d1, d2, d3, d4, d5, d6, d7, d8, d9, d10⟩ | ⟨m2, n2, c2, d1, d2, d3, d4, d5⟩
        · have T1 : lm_TieS m2 1 := ⟨384 * (s + 2) + 32, by omega, by
              show m2 28 1 = _
              rw [d2 28 (by decide) (by decide) (by decide) (by decide) (by decide) (by decide)]
              exact b4, d7, fun t ht => by
              refine lm_b8_eq ?_
              show lm_yb (m2 29 t) = lm_yb (m2 207 t)
              rw [d2 29 (by decide) (by decide) (by decide) (by decide) (by decide) (by decide), b6 t ht, d9 t ht, e206, eP]⟩
          have T2 : lm_TieS m2 2 := ⟨768 * (s + 2) + 96, by omega, by
              show m2 30 1 = _
              rw [d2 30 (by decide) (by decide) (by decide) (by decide) (by decide) (by decide)]
              exact b5, d8, fun t ht => by
              refine lm_b8_eq ?_
              show lm_yb (m2 31 t) = lm_yb (m2 208 t)
              rw [d2 31 (by decide) (by decide) (by decide) (by decide) (by decide) (by decide), b7 t ht, d10 t ht, e206, eP]
              exact lm_sec_ext (fun t ht => a4 (32 + t) (by omega)) ht⟩
          obtain ⟨z1, z2⟩ := lm_tk (J := fun j => decide (j = 1) || decide (j = 2)) (n2 := n2) h b3 (fun q hq => b2 q (by omega) (by omega) (by omega) (by omega) (by omega) (by omega) (by omega)) (fun j hj c => by
            have := lm_j12f j hj c
            exact ⟨b2 _ (by omega) (by omega) (by omega) (by omega) (by omega) (by omega) (by omega), b2 _ (by omega) (by omega) (by omega) (by omega) (by omega) (by omega) (by omega)⟩) (fun q hq => d2 q (by omega) (by omega) (by omega) (by omega) (by omega) (by omega)) (d3 3 (by decide) (by decide) (by decide) (by decide) (by decide) (by decide)) (fun q hq => d4 q (by omega) (by omega) (by omega) (by omega) (by omega) (by omega)) (fun j hj c => by
            have := lm_j12f j hj c
            exact ⟨d6 j this.1 this.2, d2 _ (by omega) (by omega) (by omega) (by omega) (by omega) (by omega)⟩) (fun j hj c => by
            rcases lm_j12 j hj c with e | e
            · subst e; exact T1
            · subst e; exact T2)
          refine ⟨0, Int32.ofNat (768 * (s + 2) + 96), m1, n1, _, m2, n2, lm_v21 hr.2.2.2 c1, c2, d5, fun _ => ?_, z1, z2, lm_rm_so hr⟩
          rw [lm_gv_so hr.2.2.2]
        · refine absurd ?_ d1
          rw [e206, ← eP]
          exact b1
      · have C1 : lm_cx m1 n1 = lm_cx m n := b3.cx (b2 221 (by decide) (by decide) (by decide))
        have e206 : m1 206 = m 206 := b2 206 (by decide) (by decide) (by decide)
        have e214 : m1 214 = m 214 := b2 214 (by decide) (by decide) (by decide)
        rcases lm_u22c (sc := lm_sc xs) (d := 593) (x := lm_xx 15 x) (m := m1) (n := n1) C1 hs (by rw [e214]; exact a3) with ⟨m2, n2, c2, d1, d2, d3, d4, d5, d6, d7, d8, d9, d10⟩ | ⟨m2, n2, c2, d1, d2, d3, d4, d5⟩
        · refine absurd ?_ b1
          rw [eP, ← e206]
          exact d1
        · obtain ⟨z1, z2⟩ := lm_tk (J := fun _ => false) (n2 := n2) h b3 (fun q hq => b2 q (by omega) (by omega) (by omega)) (fun j hj c => ⟨b2 _ (by omega) (by omega) (by omega), b2 _ (by omega) (by omega) (by omega)⟩) (fun q hq => d2 q (by omega) (by omega) (by omega)) (d3 3 (by decide) (by decide) (by decide) (by decide) (by decide) (by decide)) (fun q hq => d4 q (by omega) (by omega) (by omega) (by omega) (by omega) (by omega)) (fun j hj c => ⟨by rw [d2 214 (by decide) (by decide) (by decide)], d2 _ (by omega) (by omega) (by omega)⟩) (fun j hj c => absurd c (by decide))
          exact ⟨3, 0, m1, n1, _, m2, n2, lm_v21_15 hx c1, c2, d5, fun h => absurd h (by decide), z1, z2, lm_rm_xx hr⟩
    · exact ⟨2, 0, _, _, _, _, _, lm_v21_14 hx (lm_u67b (d := 597) hs a2 a1 c64 hx), lm_u22b (d := 598) hs a3 a1 c64, lm_u_eq, fun h => absurd h (by decide), h.cod, lm_kpc, lm_rm_xx hr⟩
  · exact ⟨1, 0, _, _, _, _, _, lm_v21_13 hx (lm_u67a (d := 597) e hx), lm_u22a (d := 598) e, lm_u_eq, fun h => absurd h (by decide), h.cod, lm_kpc, lm_rm_xx hr⟩
end LMS9
