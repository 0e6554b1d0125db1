/-! ===== slhSign: one call of both ===== -/
section LMUM
variable {xs : List Int32} {m : lm_MI} {n : lm_ML} {x : lm_H × Nat × Nat} {v w : Int32}
theorem lm_st16 (hc : lm_Con m n) (h : lm_Tie m) : lm_Stp (lm_sc xs) 35 36 [.int v, .int w] m n x := by
  intro r hr
  have hx := lm_rm_room hr
  rcases lm_range v (n := 11) (by omega) with ⟨s, hs, e⟩ | e
  · subst e
    have hpar := lm_spar s hs
    have hpz := lm_psz_b s hs
    by_cases hw : Int32.ofInt (-1) ≤ w ∧ w ≤ Int32.ofInt 12
    · obtain ⟨kk, hk, ew⟩ := ln_kd_of hw
      subst ew
      obtain ⟨rl, a1, a2, a3, a4⟩ := h.2 0 (by decide)
      obtain ⟨sl, b1, b2, b3, b4⟩ := h.2 2 (by decide)
      obtain ⟨ml, c1, c2, c3, c4⟩ := h.2 3 (by decide)
      obtain ⟨xl, d1, d2, d3, d4⟩ := h.2 4 (by decide)
      by_cases y1 : (kk = 0 ∨ xl ≤ 255) ∧ (rl = 0 ∨ rl = lm_sn s)
      · by_cases y2 : sl = 4 * lm_sn s
        · rw [y2] at b2 b3 b4
          obtain ⟨m1, n1, k1, f1, g1, z1, w1⟩ := lm_u110h (xs := xs) (d := 589) (x := x) (n := n) (kk := kk) (xl := xl) (ml := ml) (rl := rl) (Kb := fun t => lm_b8 (m 31 t)) (Rn := fun t => if rl = 0 then lm_b8 (m 31 (2 * lm_sn s + t)) else lm_b8 (m 27 t)) (Sg := lm_sgn (lm_cx m n) kk (m 35) xl (m 33) ml) (hc.cok xs) hc.rt hs hk d2 d1 y1.1 c2 c1 a2 y1.2 b2 (fun _ _ => rfl) (fun _ _ => rfl) (fun _ _ => rfl)
          have C1 : lm_cx m1 n1 = lm_cx m n := g1.cx (f1 221 (by decide) (by decide) (by decide) (by decide) (by decide) (by decide))
          have e1 : ∀ q, 202 < q → m1 q = m q := fun q hq => f1 q (by omega) (by omega) (by omega) (by omega) (by omega) (by omega)
          obtain ⟨m2, n2, k2, q1, q2, q3, q4, q5, q6, q7⟩ := lm_u36h (sc := lm_sc xs) (d := 574) (x := lm_so (Int32.ofNat (lm_psz s)).toInt64 x) (m := m1) (n := n1) (C := lm_cx m n) (kk := kk) (xl := xl) (ml := ml) (rl := rl) (Kb := fun t => lm_b8 (m 31 t)) (Rn := fun t => if rl = 0 then lm_b8 (m 31 (2 * lm_sn s + t)) else lm_b8 (m 27 t)) (Sg := lm_sgn (lm_cx m n) kk (m 35) xl (m 33) ml) C1 hs hk (by rw [e1 214 (by decide)]; exact d3) d1 y1.1 c1 ⟨m 35, m 33, by rw [e1 214 (by decide)]; exact d3, by rw [e1 214 (by decide)]; exact c3, fun t ht => by rw [e1 210 (by decide)]; exact (d4 t ht).symm, fun t ht => by rw [e1 209 (by decide)]; exact (c4 t ht).symm, fun _ _ => rfl⟩ (by rw [e1 214 (by decide)]; exact a3) y1.2 (by rw [e1 214 (by decide)]; exact b3) (fun t ht => by rw [e1 208 (by decide)]; exact (b4 t ht).symm) (fun t ht => by
            by_cases c0 : rl = 0
            · rw [if_pos c0, if_pos c0]
            · rw [if_neg c0, if_neg c0, e1 206 (by decide)]
              exact a4 t (by omega))
          have T5 : lm_TieS m2 5 := ⟨lm_psz s, by omega, by
              show m2 36 1 = _
              rw [q1 36 (by decide) (by decide) (by decide) (by decide) (by decide) (by decide) (by decide) (by decide)]
              exact z1, q6, fun t ht => by
              show lm_b8 (m2 37 t) = lm_b8 (m2 211 t)
              rw [q1 37 (by decide) (by decide) (by decide) (by decide) (by decide) (by decide) (by decide) (by decide), w1 t ht, q7 t ht]⟩
          obtain ⟨z2, z3⟩ := lm_tk (J := fun j => decide (j = 5)) (n2 := n2) h g1 (fun q hq => f1 q (by omega) (by omega) (by omega) (by omega) (by omega) (by omega)) (fun j hj c => by
            have := of_decide_eq_false c
            exact ⟨f1 _ (by omega) (by omega) (by omega) (by omega) (by omega) (by omega), f1 _ (by omega) (by omega) (by omega) (by omega) (by omega) (by omega)⟩) (fun q hq => q1 q (by omega) (by omega) (by omega) (by omega) (by omega) (by omega) (by omega) (by omega)) (q2 3 (by decide) (by decide)) (fun q hq => q3 q (by omega) (by omega) (by omega) (by omega) (by omega) (by omega)) (fun j hj c => by
            have := of_decide_eq_false c
            exact ⟨q5 j this, q1 _ (by omega) (by omega) (by omega) (by omega) (by omega) (by omega) (by omega) (by omega)⟩) (fun j hj c => by
            have := of_decide_eq_true c
            subst this
            exact T5)
          refine ⟨0, Int32.ofNat (lm_psz s), m1, n1, _, m2, n2, lm_v35 hr.2.2.2 k1, k2, q4, fun _ => ?_, z2, z3, lm_rm_so hr⟩
          rw [lm_gv_so hr.2.2.2]
        · obtain ⟨m1, k1, f1⟩ := lm_u110g (xs := xs) (d := 589) (x := x) (n := n) hx hs hk d2 d1 y1.1 a2 y1.2 b2 b1 y2
          obtain ⟨m2, k2, q1, q2⟩ := lm_u36g (sc := lm_sc xs) (d := 574) (x := lm_xx 16 x) (m := m1) (n := n) (kk := kk) (xl := xl) (rl := rl) (sl := sl) hs hk (by rw [f1 214 (by decide) (by decide)]; exact d3) d1 y1.1 (by rw [f1 214 (by decide) (by decide)]; exact a3) y1.2 (by rw [f1 214 (by decide) (by decide)]; exact b3) b1 y2
          obtain ⟨z2, z3⟩ := lm_tkr (n := n) (k := Int32.ofInt 3) h f1 q1 q2
          exact ⟨3, 0, m1, n, _, _, n, lm_v35_16 hx k1, k2, lm_u_eq, fun h => absurd h (by decide), z2, z3, lm_rm_xx hr⟩
      · obtain ⟨m1, k1, f1⟩ := lm_u110e (xs := xs) (d := 589) (x := x) (n := n) hx hs hk d2 d1 a2 a1 y1
        obtain ⟨m2, k2, q1, q2⟩ := lm_u36e (sc := lm_sc xs) (d := 574) (x := lm_xx 14 x) (m := m1) (n := n) (kk := kk) (xl := xl) (rl := rl) hs hk (by rw [f1 214 (by decide) (by decide)]; exact d3) d1 (by rw [f1 214 (by decide) (by decide)]; exact a3) a1 y1
        obtain ⟨z2, z3⟩ := lm_tkr (n := n) (k := Int32.ofInt 2) h f1 q1 q2
        exact ⟨2, 0, m1, n, _, _, n, lm_v35_14 hx k1, k2, lm_u_eq, fun h => absurd h (by decide), z2, z3, lm_rm_xx hr⟩
    · exact ⟨1, 0, _, _, _, _, _, lm_v35_13 hx (lm_u110b (d := 596) hs hw hx), lm_u36b (d := 598) hs hw, lm_u_eq, fun h => absurd h (by decide), h.cod, lm_kpc, lm_rm_xx hr⟩
  · exact ⟨1, 0, _, _, _, _, _, lm_v35_13 hx (lm_u110a (d := 596) e hx), lm_u36a (d := 598) e, lm_u_eq, fun h => absurd h (by decide), h.cod, lm_kpc, lm_rm_xx hr⟩
end LMUM
