/-! ===== dsaKeys of the reference: the call; one call of both ===== -/
theorem lm_xsec_hi {C : lm_CX} {K : Nat → Int32} {s j : Nat} : lm_xsec C K s (128 + j) = if 128 + j < lm_xb1 s then lm_pkB (fun t c => (lm_de s : Int) - lm_xV C K s t c) (lm_xb s) (128 + j - 128) else lm_pkB (fun i c => 4096 - lm_tL (lm_xR C K s i c)) 13 (128 + j - lm_xb1 s) := by
  unfold lm_xsec
  rw [if_neg (by omega), if_neg (by omega), if_neg (by omega)]
section LMRR
variable {sc : lm_H} {xs : List Int32} {C : lm_CX} {d s : Nat} {m : lm_MI} {n : lm_ML} {x : lm_H × Nat × Nat} {K E : Nat → Int32} {v : Int32}
theorem lm_u28c (hC : lm_cx m n = C) (hs : s ≤ 2) (h32 : m 214 0 = Int32.ofNat 32) : (∃ m' n', lm_cal sc (d + 7) 28 [.ref 203, .int (Int32.ofNat s)] (lm_w m n x) = some (.ok (some (.int (Int32.ofNat (lm_dss s)))), lm_w m' n' x) ∧ lm_xok C (lm_xE C (m 206) s) s ∧ (∀ r, r ≠ 203 → r ≠ 207 → r ≠ 208 → r ≠ 214 → r ≠ 227 → (r < 263 ∨ 328 < r) → m' r = m r) ∧ (∀ j, j ≠ 4 → j ≠ 18 → j ≠ 19 → j ≠ 20 → j ≠ 24 → j ≠ 32 → (j < 42 ∨ 49 < j) → m' 203 j = m 203 j) ∧ (∀ q, q ≠ 203 → q ≠ 223 → q ≠ 224 → q ≠ 225 → q ≠ 226 → q ≠ 230 → n' q = n q) ∧ m' 203 4 = 0 ∧ (∀ j, j ≠ 1 → j ≠ 2 → m' 214 j = m 214 j) ∧ m' 214 1 = Int32.ofNat (32 + 320 * lm_dk s) ∧ m' 214 2 = Int32.ofNat (lm_dss s) ∧ (∀ j, j < 32 + 320 * lm_dk s → lm_yb (m' 207 j) = lm_xpub C (lm_xE C (m 206) s) s j) ∧ ∀ j, j < lm_dss s → lm_yb (m' 208 j) = lm_xsec C (lm_xE C (m 206) s) s j) ∨ ∃ m' n', lm_cal sc (d + 7) 28 [.ref 203, .int (Int32.ofNat s)] (lm_w m n x) = some (.ok (some (.int 0)), lm_w m' n' x) ∧ ¬ lm_xok C (lm_xE C (m 206) s) s ∧ (∀ r, r ≠ 203 → r ≠ 227 → (r < 263 ∨ 328 < r) → m' r = m r) ∧ (∀ j, j ≠ 4 → j ≠ 18 → j ≠ 19 → j ≠ 20 → j ≠ 24 → j ≠ 32 → (j < 42 ∨ 49 < j) → m' 203 j = m 203 j) ∧ (∀ q, q ≠ 203 → q ≠ 223 → q ≠ 224 → q ≠ 225 → q ≠ 226 → q ≠ 230 → n' q = n q) ∧ m' 203 4 = Int32.ofInt 3 := by
  have hkl := lm_dkl hs
  have hde := lm_de_2 hs
  obtain ⟨m1, n1, D1, a4, aE, aR, aF, aN, K0⟩ := lm_l28i (sc := sc) (d := d) (x := x) hC hs h32
  generalize eE : lm_xE C (m 206) s = E at *
  have hE : ∀ i, i < 128 → lm_b8 (m1 263 i) = lm_b8 (E i) := fun i hi => by rw [aE i hi]
  have hE' : ∀ i, i < 128 → lm_b8 (E i) = lm_b8 (m1 263 i) := fun i hi => (hE i hi).symm
  obtain ⟨m2, n2, ⟨b1, b2, b3⟩, K1⟩ := lm_l28a (sc := sc) (d := d) (x := x) hs D1
  have D2 : lm_RD C s m2 n2 := D1.keep b2.B (b1 221 (by decide) (by decide) (by decide)) (b1 268 (by decide) (by decide) (by decide))
  have e263 : m2 263 = m1 263 := b1 263 (by decide) (by decide) (by decide)
  have run0 : ∀ b, lm_xg C (m1 263) (lm_de s) (lm_dl s + lm_dk s) = b → ∀ R, lm_if .ne (lm_z b) 0 (lm_bind (lm_gI 4572 203) fun v5 => lm_if .ne v5 (Int32.ofInt 2) (lm_rn sc (d + 6) lm_m28.2.2.2.2.1 (lm_reg lm_m28.2.2.2.2.2) (169, [(0, .ref 203)], [.int (Int32.ofInt 4)])) (lm_rn sc (d + 6) lm_m28.2.2.2.2.1 (lm_reg lm_m28.2.2.2.2.2) (169, [(0, .ref 203)], [.int (Int32.ofInt 3)]))) (lm_ret (some (.int (Int32.ofInt 0)))) (lm_w (lm_u m2 203 4 (cond b 0 (Int32.ofInt 3))) n2 x) = some R → lm_cal sc (d + 7) 28 [.ref 203, .int (Int32.ofNat s)] (lm_w m n x) = some R := by
    intro b hb R KK
    have u49 := lm_u49 (sc := sc) (d := d + 5) (m := m2) (n := n2) (x := x) (k := Int32.ofInt 3) b
    have K1' := K1 R
    rw [hb] at K1'
    refine K0 R (K1' (lm_e28_96 ?_))
    clear b3 K1 K1' hb
    unfold lm_q28_96
    repeat (first
    | ((with_reducible apply lm_sI); exact rfl)
    | ((with_reducible apply lm_sR); exact rfl)
    | ((with_reducible apply lm_sS); exact rfl; exact rfl)
    | ((with_reducible apply lm_sL); exact rfl)
    | ((with_reducible apply lm_sP); exact rfl; exact rfl)
    | ((with_reducible apply lm_sPL); exact rfl; exact rfl)
    | ((with_reducible apply lm_sAA); exact rfl; exact rfl)
    | ((with_reducible apply lm_sA); (first | exact rfl | assumption); omega)
    | ((with_reducible apply lm_sJ); (first | exact rfl | assumption); omega)
    | ((with_reducible apply lm_sB); (first | exact rfl | assumption); omega)
    | ((with_reducible apply lm_wA); (first | exact rfl | assumption); omega)
    | ((with_reducible apply lm_wJ); (first | exact rfl | assumption); omega)
    | ((with_reducible apply lm_wB); (first | exact rfl | assumption); omega)
    | ((with_reducible apply lm_sAl); (first | exact rfl | assumption); omega)
    | ((with_reducible apply lm_iW); decide))
    simp only [Nat.reduceDiv, Nat.reduceMod]
    rw [D2.2.1, D2.2.2.1, lm_oo]
    refine lm_geT (by omega) (by omega) (by omega) ?_
    repeat (first
    | ((with_reducible apply lm_sI); exact rfl)
    | ((with_reducible apply lm_sR); exact rfl)
    | ((with_reducible apply lm_sS); exact rfl; exact rfl)
    | ((with_reducible apply lm_sL); exact rfl)
    | ((with_reducible apply lm_sP); exact rfl; exact rfl)
    | ((with_reducible apply lm_sPL); exact rfl; exact rfl)
    | ((with_reducible apply lm_sAA); exact rfl; exact rfl)
    | ((with_reducible apply lm_sA); (first | exact rfl | assumption); omega)
    | ((with_reducible apply lm_sJ); (first | exact rfl | assumption); omega)
    | ((with_reducible apply lm_sB); (first | exact rfl | assumption); omega)
    | ((with_reducible apply lm_wA); (first | exact rfl | assumption); omega)
    | ((with_reducible apply lm_wJ); (first | exact rfl | assumption); omega)
    | ((with_reducible apply lm_wB); (first | exact rfl | assumption); omega)
    | ((with_reducible apply lm_sAl); (first | exact rfl | assumption); omega)
    | ((with_reducible apply lm_iW); decide))
    refine lm_cI u49 ?_
    exact KK
  cases hb : lm_xg C (m1 263) (lm_de s) (lm_dl s + lm_dk s) with
  | false =>
    refine Or.inr ⟨lm_u m2 203 4 (Int32.ofInt 3), n2, run0 false hb _ ?_, fun g => ?_, fun r q1 q2 q3 => by rw [lm_u_row q1, b1 r q1 q2 (by omega), aR r q1 q2 (by omega) (by omega)], fun j j1 j2 j3 j4 j5 j6 j7 => by rw [lm_u_ne (fun g => j1 g.2), b2.1 j j2 j3 j4, aF j j1 j2 j3 j4 j6 j7], fun q q1 q2 q3 q4 q5 q6 => by rw [b2.2 q q1 q2 q3 q4 q5 q6, aN q q1 q2 q3 q4 q5 q6], lm_u_eq⟩
    · refine lm_iF (show ¬ ¬ (0 : Int32) = 0 by decide) ?_
      rfl
    · have g' := (lm_xok_ext hE' g).2
      have := (lm_xg_t (C := C) (K := m1 263) (e := lm_de s) (lm_dl s + lm_dk s)).mpr g'
      rw [hb] at this
      exact absurd this (by decide)
  | true =>
    have hg := (lm_xg_t (C := C) (K := m1 263) (e := lm_de s) (lm_dl s + lm_dk s)).mp hb
    generalize eM3 : lm_u m2 203 4 0 = M3
    have r3 : ∀ r, r ≠ 203 → M3 r = m2 r := fun r hr => by rw [← eM3, lm_u_row hr]
    have f3 : ln_fD m2 n2 M3 n2 := by rw [← eM3]; exact .u4
    have D3 : lm_RD C s M3 n2 := D2.keepD f3 (r3 221 (by decide)) (r3 268 (by decide))
    have e263' : M3 263 = m1 263 := by rw [r3 263 (by decide), e263]
    have run3 : ∀ R, lm_rn sc (d + 6) lm_m28.2.2.2.2.1 (lm_reg lm_m28.2.2.2.2.2) (169, [(0, .ref 203)], [.int (Int32.ofNat (lm_xb s))]) (lm_w M3 n2 x) = some R → lm_cal sc (d + 7) 28 [.ref 203, .int (Int32.ofNat s)] (lm_w m n x) = some R := by
      intro R KK
      refine run0 true hb R ?_
      refine lm_iT (show ¬ (1 : Int32) = 0 by decide) ?_
      rw [show lm_u m2 203 4 (cond true 0 (Int32.ofInt 3)) = M3 from eM3]
      repeat (first
    | ((with_reducible apply lm_sI); exact rfl)
    | ((with_reducible apply lm_sR); exact rfl)
    | ((with_reducible apply lm_sS); exact rfl; exact rfl)
    | ((with_reducible apply lm_sL); exact rfl)
    | ((with_reducible apply lm_sP); exact rfl; exact rfl)
    | ((with_reducible apply lm_sPL); exact rfl; exact rfl)
    | ((with_reducible apply lm_sAA); exact rfl; exact rfl)
    | ((with_reducible apply lm_sA); (first | exact rfl | assumption); omega)
    | ((with_reducible apply lm_sJ); (first | exact rfl | assumption); omega)
    | ((with_reducible apply lm_sB); (first | exact rfl | assumption); omega)
    | ((with_reducible apply lm_wA); (first | exact rfl | assumption); omega)
    | ((with_reducible apply lm_wJ); (first | exact rfl | assumption); omega)
    | ((with_reducible apply lm_wB); (first | exact rfl | assumption); omega)
    | ((with_reducible apply lm_sAl); (first | exact rfl | assumption); omega)
    | ((with_reducible apply lm_iW); decide))
      simp only [Nat.reduceDiv, Nat.reduceMod]
      rw [D3.2.2.2.1, lm_K2]
      by_cases c : lm_de s = 2
      · refine lm_neF (by omega) (by omega) (by omega) ?_
        rw [show lm_xb s = 3 by unfold lm_xb; rw [if_pos c]] at KK
        exact KK
      · refine lm_neT (by omega) (by omega) c ?_
        rw [show lm_xb s = 4 by unfold lm_xb; rw [if_neg c]] at KK
        exact KK
    have frB : ∀ r, r ≠ 203 → r ≠ 227 → (r < 263 ∨ 328 < r) → M3 r = m r := fun r q1 q2 q3 => by rw [r3 r q1, b1 r q1 q2 (by omega), aR r q1 q2 (by omega) (by omega)]
    have frF : ∀ j, j ≠ 4 → j ≠ 18 → j ≠ 19 → j ≠ 20 → j ≠ 24 → j ≠ 32 → (j < 42 ∨ 49 < j) → M3 203 j = m 203 j := fun j j1 j2 j3 j4 j5 j6 j7 => by rw [f3.1 j j1 j2 j3 j4 j5, b2.1 j j2 j3 j4, aF j j1 j2 j3 j4 j6 j7]
    have frN : ∀ q, q ≠ 203 → q ≠ 223 → q ≠ 224 → q ≠ 225 → q ≠ 226 → q ≠ 230 → n2 q = n q := fun q q1 q2 q3 q4 q5 q6 => by rw [b2.2 q q1 q2 q3 q4 q5 q6, aN q q1 q2 q3 q4 q5 q6]
    have hV : ∀ t, t < lm_dl s + lm_dk s → ∀ c, c < 256 → M3 (270 + t) c = Int32.ofInt (lm_xV C (m1 263) s t c) := fun t ht c hc => by
      rw [r3 _ (by omega), lm_xV_e]
      exact b3 t ht c (by rw [hg t ht]; exact hc)
    rcases lm_l28j (sc := sc) (d := d) (x := x) (m := M3) (n := n2) hs D3 (by rw [e263']; exact hg) (by rw [e263']; exact hV) (by rw [← eM3, lm_u_eq]) with ⟨m5, n5, c1, c2, c3, c4, c5, c6, k5⟩ | ⟨m5, n5, c1, c2, c3, c4, k5⟩
    · rw [e263'] at c1 c5 c6
      have D5 : lm_RD C s m5 n5 := D3.keepD c3 (c2 221 (by decide) (by decide) (by decide) (by decide) (by decide)) (c2 268 (by decide) (by decide) (by decide) (by decide) (by decide))
      have e263'' : m5 263 = m1 263 := by rw [c2 263 (by decide) (by decide) (by decide) (by decide) (by decide), e263']
      obtain ⟨m6, n6, c7, d1, d2, d3, d4, d5, d6, d7⟩ := lm_l28h (sc := sc) (d := d) (x := x) (m := m5) (n := n5) (K := E) hs D5 (fun i hi => by rw [e263'']; exact hE i hi) (fun j hj => by rw [c5 j hj, lm_xR_ext hE]) (fun j hj => by
        rw [c6 j hj]
        rw [lm_xsec_hi, lm_xsec_hi, lm_xR_ext hE, lm_xV_ext hE])
      refine Or.inl ⟨m6, n6, run3 _ (k5 _ c7), lm_xok_ext hE ⟨c1, hg⟩, fun r q1 q2 q3 q4 q5 q6 => ?_, fun j j1 j2 j3 j4 j5 j6 j7 => ?_, fun q q1 q2 q3 q4 q5 q6 => ?_, ?_, fun j j1 j2 => ?_, d4, d5, d6, d7⟩
      · rw [d1 r q1 q2 q3 q4 q5, c2 r q1 q5 (by omega) (by omega) (by omega), frB r q1 q5 q6]
      · rw [d2.1 j j2 j3 j4 j5, c3.1 j j1 j2 j3 j4 j5, frF j j1 j2 j3 j4 j5 j6 j7]
      · rw [d2.2 q q1 q2 q3 q4 q5 q6, c3.2 q q1 q2 q3 q4 q5 q6, frN q q1 q2 q3 q4 q5 q6]
      · rw [d2.1 4 (by decide) (by decide) (by decide) (by decide)]
        exact c4
      · rw [d3 j j1 j2, c2 214 (by decide) (by decide) (by decide) (by decide) (by decide), frB 214 (by decide) (by decide) (by decide)]
    · rw [e263'] at c1
      obtain ⟨i, t, hi, ht, hn⟩ := c1
      refine Or.inr ⟨m5, n5, run3 _ k5, fun g => hn ((lm_xok_ext hE' g).1 i t hi ht), fun r q1 q2 q3 => ?_, fun j j1 j2 j3 j4 j5 j6 j7 => ?_, fun q q1 q2 q3 q4 q5 q6 => ?_, c4⟩
      · rw [c2 r q1 q2 (by omega) (by omega) (by omega), frB r q1 q2 q3]
      · rw [c3.1 j j1 j2 j3 j4 j5, frF j j1 j2 j3 j4 j5 j6 j7]
      · rw [c3.2 q q1 q2 q3 q4 q5 q6, frN q q1 q2 q3 q4 q5 q6]
/-- the seeds of RANDOM's bytes that are alike -/
theorem lm_xE_ext {R R' : Nat → Int32} (h : ∀ i, i < 32 → lm_b8 (R i) = lm_b8 (R' i)) : lm_xE C R s = lm_xE C R' s := by
  unfold lm_xE
  rw [lm_gs_ext (K' := R') (a' := 0) (fun i hi => by rw [Nat.zero_add]; exact h i hi)]
theorem lm_st12 (hc : lm_Con m n) (h : lm_Tie m) : lm_Stp (lm_sc xs) 27 28 [.int v] m n x := by
  intro r hr
  have hx := lm_rm_room hr
  rcases lm_range v (n := 2) (by omega) with ⟨s, hs, e⟩ | e
  · subst e
    have hkl := lm_dkl hs
    have hsz := lm_xsz s hs
    obtain ⟨l, a1, a2, a3, a4⟩ := h.2 0 (by decide)
    by_cases c64 : l = 32
    · subst c64
      have eP : lm_xE (lm_cx m n) (m 27) s = lm_xE (lm_cx m n) (m 206) s := lm_xE_ext (fun t ht => a4 t (by omega))
      rcases lm_u85c (xs := xs) (d := 591) (x := x) (n := n) (hc.cok xs) hc.rt hx hs hc.dtb a2 with ⟨m1, n1, c1, b1, b2, b3, b4, b5, b6, b7⟩ | ⟨m1, n1, c1, b1, b2, b3⟩
      · have C1 : lm_cx m1 n1 = lm_cx m n := b3.cx (b2 221 (by decide) (by decide) (by decide) (by decide) (by decide) (by decide) (by decide))
        have e206 : m1 206 = m 206 := b2 206 (by decide) (by decide) (by decide) (by decide) (by decide) (by decide) (by decide)
        have e214 : m1 214 = m 214 := b2 214 (by decide) (by decide) (by decide) (by decide) (by decide) (by decide) (by decide)
        rcases lm_u28c (sc := lm_sc xs) (d := 593) (x := lm_so (Int32.ofNat (lm_dss s)).toInt64 x) (m := m1) (n := n1) C1 hs (by rw [e214]; exact a3) with ⟨m2, n2, c2, d1, d2, d3, d4, d5, d6, d7, d8, d9, d10⟩ | ⟨m2, n2, c2, d1, d2, d3, d4, d5⟩
        · have T1 : lm_TieS m2 1 := ⟨32 + 320 * lm_dk s, by omega, by
              show m2 28 1 = _
              rw [d2 28 (by decide) (by decide) (by decide) (by decide) (by decide) (by decide)]
              exact b4, d7, fun t ht => by
              refine lm_b8_eq ?_
              show lm_yb (m2 29 t) = lm_yb (m2 207 t)
              rw [d2 29 (by decide) (by decide) (by decide) (by decide) (by decide) (by decide), b6 t ht, d9 t ht, e206, eP]⟩
          have T2 : lm_TieS m2 2 := ⟨lm_dss s, by omega, by
              show m2 30 1 = _
              rw [d2 30 (by decide) (by decide) (by decide) (by decide) (by decide) (by decide)]
              exact b5, d8, fun t ht => by
              refine lm_b8_eq ?_
              show lm_yb (m2 31 t) = lm_yb (m2 208 t)
              rw [d2 31 (by decide) (by decide) (by decide) (by decide) (by decide) (by decide), b7 t ht, d10 t ht, e206, eP]⟩
          obtain ⟨z1, z2⟩ := lm_tk (J := fun j => decide (j = 1) || decide (j = 2)) (n2 := n2) h b3 (fun q hq => b2 q (by omega) (by omega) (by omega) (by omega) (by omega) (by omega) (by omega)) (fun j hj c => by
            have := lm_j12f j hj c
            exact ⟨b2 _ (by omega) (by omega) (by omega) (by omega) (by omega) (by omega) (by omega), b2 _ (by omega) (by omega) (by omega) (by omega) (by omega) (by omega) (by omega)⟩) (fun q hq => d2 q (by omega) (by omega) (by omega) (by omega) (by omega) (by omega)) (d3 3 (by decide) (by decide) (by decide) (by decide) (by decide) (by decide) (by decide)) (fun q hq => d4 q (by omega) (by omega) (by omega) (by omega) (by omega) (by omega)) (fun j hj c => by
            have := lm_j12f j hj c
            exact ⟨d6 j this.1 this.2, d2 _ (by omega) (by omega) (by omega) (by omega) (by omega) (by omega)⟩) (fun j hj c => by
            rcases lm_j12 j hj c with e | e
            · subst e; exact T1
            · subst e; exact T2)
          refine ⟨0, Int32.ofNat (lm_dss s), m1, n1, _, m2, n2, lm_v27 hr.2.2.2 c1, c2, d5, fun _ => ?_, z1, z2, lm_rm_so hr⟩
          rw [lm_gv_so hr.2.2.2]
        · refine absurd ?_ d1
          rw [e206, ← eP]
          exact b1
      · have C1 : lm_cx m1 n1 = lm_cx m n := b3.cx (b2 221 (by decide) (by decide) (by decide))
        have e206 : m1 206 = m 206 := b2 206 (by decide) (by decide) (by decide)
        have e214 : m1 214 = m 214 := b2 214 (by decide) (by decide) (by decide)
        rcases lm_u28c (sc := lm_sc xs) (d := 593) (x := lm_xx 15 x) (m := m1) (n := n1) C1 hs (by rw [e214]; exact a3) with ⟨m2, n2, c2, d1, d2, d3, d4, d5, d6, d7, d8, d9, d10⟩ | ⟨m2, n2, c2, d1, d2, d3, d4, d5⟩
        · refine absurd ?_ b1
          rw [eP, ← e206]
          exact d1
        · obtain ⟨z1, z2⟩ := lm_tk (J := fun _ => false) (n2 := n2) h b3 (fun q hq => b2 q (by omega) (by omega) (by omega)) (fun j hj c => ⟨b2 _ (by omega) (by omega) (by omega), b2 _ (by omega) (by omega) (by omega)⟩) (fun q hq => d2 q (by omega) (by omega) (by omega)) (d3 3 (by decide) (by decide) (by decide) (by decide) (by decide) (by decide) (by decide)) (fun q hq => d4 q (by omega) (by omega) (by omega) (by omega) (by omega) (by omega)) (fun j hj c => ⟨by rw [d2 214 (by decide) (by decide) (by decide)], d2 _ (by omega) (by omega) (by omega)⟩) (fun j hj c => absurd c (by decide))
          exact ⟨3, 0, m1, n1, _, m2, n2, lm_v27_15 hx c1, c2, d5, fun h => absurd h (by decide), z1, z2, lm_rm_xx hr⟩
    · exact ⟨2, 0, _, _, _, _, _, lm_v27_14 hx (lm_u85b (d := 597) hs a2 a1 c64 hx), lm_u28b (d := 598) hs a3 a1 c64, lm_u_eq, fun h => absurd h (by decide), h.cod, lm_kpc, lm_rm_xx hr⟩
  · exact ⟨1, 0, _, _, _, _, _, lm_v27_13 hx (lm_u85a (d := 597) e hx), lm_u28a (d := 598) e, lm_u_eq, fun h => absurd h (by decide), h.cod, lm_kpc, lm_rm_xx hr⟩
end LMRR
