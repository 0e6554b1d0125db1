/-! ===== slhVerify: one call of both ===== -/
section LMUJ
variable {sc : lm_H} {xs : List Int32} {m m' m1 m2 : lm_MI} {n n' n1 : lm_ML} {x : lm_H × Nat × Nat} {v w k : Int32}
/-- refused by both, the set chosen -/
theorem lm_tkr (h : lm_Tie m) (b2 : ∀ q, q ≠ 194 → q ≠ 195 → m1 q = m q) (d2 : ∀ q, q ≠ 203 → q ≠ 333 → m2 q = m1 q) (d3 : m2 203 3 = m1 203 3) : lm_Tie (lm_u m2 203 4 k) ∧ lm_kp m n (lm_u m2 203 4 k) n := lm_tk (J := fun _ => false) (n2 := n) h (lm_fN.of (b2 11 (by decide) (by decide)) (b2 17 (by decide) (by decide)) : lm_fN m n m1 n) (fun q hq => b2 q (by omega) (by omega)) (fun j hj c => ⟨b2 _ (by omega) (by omega), b2 _ (by omega) (by omega)⟩) (fun q hq => by rw [lm_u_row (by omega), d2 q (by omega) (by omega)]) (by rw [lm_u_ne (by decide), d3]) (fun q hq => rfl) (fun j hj c => ⟨by rw [lm_u_row (by decide), d2 214 (by decide) (by decide)], by rw [lm_u_row (by omega), d2 _ (by omega) (by omega)]⟩) (fun j hj c => absurd c (by decide))
theorem lm_st17 (hc : lm_Con m n) (h : lm_Tie m) : lm_StpZ (lm_sc xs) 37 38 [.int v, .int w] m n x := by
  intro r hr
  have hx := lm_rm_room hr
  rcases lm_range v (n := 11) (by omega) with ⟨s, hs, e⟩ | e
  · subst e
    have hpar := lm_spar s hs
    have hpz := lm_psz_b s hs
    by_cases hw : Int32.ofInt (-1) ≤ w ∧ w ≤ Int32.ofInt 12
    · obtain ⟨kk, hk, ew⟩ := ln_kd_of hw
      subst ew
      obtain ⟨sl, b1, b2, b3, b4⟩ := h.2 1 (by decide)
      obtain ⟨ml, c1, c2, c3, c4⟩ := h.2 3 (by decide)
      obtain ⟨xl, d1, d2, d3, d4⟩ := h.2 4 (by decide)
      obtain ⟨pl, p1, p2, p3, p4⟩ := h.2 5 (by decide)
      by_cases y1 : kk = 0 ∨ xl ≤ 255
      · by_cases y2 : sl = 2 * lm_sn s
        · rw [y2] at b2 b3 b4
          by_cases y3 : pl = lm_psz s
          · rw [y3] at p2 p3 p4
            obtain ⟨m1, n1, k1, f1, g1, z1, w1⟩ := lm_u121h (xs := xs) (d := 590) (x := x) (n := n) (A := fun t => lm_b8 (m 37 t)) (QR := fun t => lm_b8 (m 29 t)) (Sg := lm_sgn (lm_cx m n) kk (m 35) xl (m 33) ml) (hc.cok xs) hc.rt hs hk d2 d1 y1 b2 c2 c1 p2 (fun _ _ => rfl) (fun _ _ => rfl) (fun _ _ => rfl)
            generalize eV : lm_ev (lm_vvR (lm_cx m n) s (fun t => lm_b8 (m 29 t)) (fun _ => 0) (lm_plD (lm_cx m n) s (fun t => lm_b8 (m 37 t)) (fun t => lm_b8 (m 29 t)) (lm_sgn (lm_cx m n) kk (m 35) xl (m 33) ml) (lm_sgl kk xl ml)) (fun t => lm_b8 (m 37 t))) (fun t => lm_b8 (m 29 (lm_sn s + t))) (lm_sn s) 0 = B at k1
            have C1 : lm_cx m1 n1 = lm_cx m n := g1.cx (f1 221 (by decide) (by decide) (by decide) (by decide) (by decide) (by decide))
            have e1 : ∀ q, 202 < q → m1 q = m q := fun q hq => f1 q (by omega) (by omega) (by omega) (by omega) (by omega) (by omega)
            obtain ⟨m2, n2, k2, q1, q2, q3, q4, q5, q6, q7⟩ := lm_u38h (sc := lm_sc xs) (d := 591) (x := lm_so (lm_zl B) x) (m := m1) (n := n1) (C := lm_cx m n) (kk := kk) (xl := xl) (ml := ml) (A := fun t => lm_b8 (m 37 t)) (QR := fun t => lm_b8 (m 29 t)) (Sg := lm_sgn (lm_cx m n) kk (m 35) xl (m 33) ml) C1 hs hk (by rw [e1 214 (by decide)]; exact d3) d1 y1 (by rw [e1 214 (by decide)]; exact b3) c1 ⟨m 35, m 33, by rw [e1 214 (by decide)]; exact d3, by rw [e1 214 (by decide)]; exact c3, fun t ht => by rw [e1 210 (by decide)]; exact (d4 t ht).symm, fun t ht => by rw [e1 209 (by decide)]; exact (c4 t ht).symm, fun _ _ => rfl⟩ (by rw [e1 214 (by decide)]; exact p3) (fun t ht => by rw [e1 211 (by decide)]; exact (p4 t ht).symm) (fun t ht => by rw [e1 207 (by decide)]; exact (b4 t ht).symm)
            rw [eV] at k2
            have T6 : lm_TieS m2 6 := ⟨lm_sn s, by omega, by
                show m2 38 1 = _
                rw [q1 38 (by decide) (by decide) (by decide) (by decide) (by decide) (by decide) (by decide)]
                exact z1, q6, fun t ht => by
                show lm_b8 (m2 39 t) = lm_b8 (m2 212 t)
                rw [q1 39 (by decide) (by decide) (by decide) (by decide) (by decide) (by decide) (by decide), w1 t ht, q7 t ht]⟩
            obtain ⟨z2, z3⟩ := lm_tk (J := fun j => decide (j = 6)) (n2 := n2) h g1 (fun q hq => f1 q (by omega) (by omega) (by omega) (by omega) (by omega) (by omega)) (fun j hj c => by
              have := of_decide_eq_false c
              exact ⟨f1 _ (by omega) (by omega) (by omega) (by omega) (by omega) (by omega), f1 _ (by omega) (by omega) (by omega) (by omega) (by omega) (by omega)⟩) (fun q hq => q1 q (by omega) (by omega) (by omega) (by omega) (by omega) (by omega) (by omega)) (q2 3 (by decide) (by decide)) (fun q hq => q3 q (by omega) (by omega) (by omega) (by omega) (by omega) (by omega)) (fun j hj c => by
              have := of_decide_eq_false c
              exact ⟨q5 j this, q1 _ (by omega) (by omega) (by omega) (by omega) (by omega) (by omega) (by omega)⟩) (fun j hj c => by
              have := of_decide_eq_true c
              subst this
              exact T6)
            refine ⟨0, B, m1, n1, _, m2, n2, lm_v37 hr.2.2.2 k1, k2, q4, fun _ => ?_, z2, z3, lm_rm_so hr⟩
            rw [lm_gv_so hr.2.2.2]
          · obtain ⟨m1, k1, f1⟩ := lm_u121f (xs := xs) (d := 590) (x := x) (n := n) hs hk d2 d1 y1 b2 p2 p1 y3
            obtain ⟨m2, k2, q1, q2⟩ := lm_u38f (sc := lm_sc xs) (d := 591) (x := lm_so (lm_zl false) x) (m := m1) (n := n) (kk := kk) (xl := xl) (pl := pl) hs hk (by rw [f1 214 (by decide) (by decide)]; exact d3) d1 y1 (by rw [f1 214 (by decide) (by decide)]; exact b3) (by rw [f1 214 (by decide) (by decide)]; exact p3) p1 y3
            obtain ⟨z2, z3⟩ := lm_tkr (n := n) (k := 0) h f1 q1 q2
            refine ⟨0, false, m1, n, _, _, n, lm_v37 (b := false) hr.2.2.2 k1, k2, lm_u_eq, fun _ => ?_, z2, z3, lm_rm_so hr⟩
            rw [lm_gv_so hr.2.2.2]
        · obtain ⟨m1, k1, f1⟩ := lm_u121g (xs := xs) (d := 590) (x := x) (n := n) hx hs hk d2 d1 y1 b2 b1 y2
          obtain ⟨m2, k2, q1, q2⟩ := lm_u38g (sc := lm_sc xs) (d := 591) (x := lm_xx 16 x) (m := m1) (n := n) (kk := kk) (xl := xl) (sl := sl) hs hk (by rw [f1 214 (by decide) (by decide)]; exact d3) d1 (by rw [f1 214 (by decide) (by decide)]; exact b3) b1 (fun g => y2 g.2)
          rw [if_pos y1] at k2
          obtain ⟨z2, z3⟩ := lm_tkr (n := n) (k := Int32.ofInt 3) h f1 q1 q2
          exact ⟨3, false, m1, n, _, _, n, lm_v37_16 hx k1, k2, lm_u_eq, fun h => absurd h (by decide), z2, z3, lm_rm_xx hr⟩
      · obtain ⟨m1, k1, f1⟩ := lm_u121e (xs := xs) (d := 590) (x := x) (n := n) hx hs hk d2 d1 b2 b1 y1
        obtain ⟨m2, k2, q1, q2⟩ := lm_u38g (sc := lm_sc xs) (d := 591) (x := lm_xx 14 x) (m := m1) (n := n) (kk := kk) (xl := xl) (sl := sl) hs hk (by rw [f1 214 (by decide) (by decide)]; exact d3) d1 (by rw [f1 214 (by decide) (by decide)]; exact b3) b1 (fun g => y1 g.1)
        rw [if_neg y1] at k2
        obtain ⟨z2, z3⟩ := lm_tkr (n := n) (k := Int32.ofInt 2) h f1 q1 q2
        exact ⟨2, false, m1, n, _, _, n, lm_v37_14 hx k1, k2, lm_u_eq, fun h => absurd h (by decide), z2, z3, lm_rm_xx hr⟩
    · exact ⟨1, false, _, _, _, _, _, lm_v37_13 hx (lm_u121b (d := 596) hs hw hx), lm_u38b (d := 598) hs hw, lm_u_eq, fun h => absurd h (by decide), h.cod, lm_kpc, lm_rm_xx hr⟩
  · exact ⟨1, false, _, _, _, _, _, lm_v37_13 hx (lm_u121a (d := 596) e hx), lm_u38a (d := 598) e, lm_u_eq, fun h => absurd h (by decide), h.cod, lm_kpc, lm_rm_xx hr⟩
end LMUJ
