/-! ===== dsaSign: one call of both ===== -/
section LMSG13
variable {sc : lm_H} {xs : List Int32} {C : lm_CX} {d s : Nat} {m m1 m2 : lm_MI} {n n1 n2 : lm_ML} {x : lm_H × Nat × Nat} {v w : Int32}
theorem lm_j5 : ∀ j, j < 8 → decide (j = 5) = true → j = 5 := by decide
theorem lm_j5f : ∀ j, j < 8 → decide (j = 5) = false → j ≠ 5 := by decide
/-- the reference's choice alone -/
theorem lm_tkd {c : Int32} (h : lm_Tie m) (f2 : lm_fN m n m1 n1) (f1 : ∀ q, q ≠ 76 → m1 q = m q) : lm_Tie (lm_u (lm_dm2 (lm_u m1 203 4 0) s) 203 4 c) ∧ lm_kp m n (lm_u (lm_dm2 (lm_u m1 203 4 0) s) 203 4 c) n1 := by
  have e : ∀ q, q ≠ 203 → q ≠ 268 → lm_u (lm_dm2 (lm_u m1 203 4 0) s) 203 4 c q = m1 q := fun q q1 q2 => by rw [lm_u_row q1, lm_dm2_row q1 q2, lm_u_row q1]
  exact lm_tk (J := fun _ => false) (n2 := n1) h f2 (fun q hq => f1 q (by omega)) (fun j hj _ => ⟨f1 _ (by omega), f1 _ (by omega)⟩) (fun q hq => e q (by omega) (by omega)) (by rw [lm_u_ne (by decide), lm_dm2_3, lm_u_ne (by decide)]) (fun q hq => rfl) (fun j hj _ => ⟨by rw [e 214 (by decide) (by decide)], e _ (by omega) (by omega)⟩) (fun j hj g => absurd g (by decide))
theorem lm_st13 (hc : lm_Con m n) (h : lm_Tie m) : lm_Stp (lm_sc xs) 29 30 [.int v, .int w] m n x := by
  intro r hr
  have hx := lm_rm_room hr
  rcases lm_range v (n := 2) (by omega) with ⟨s, hs, e⟩ | e
  · subst e
    have hkl := lm_dkl hs
    have hsz := lm_xsz s hs
    have hpar := lm_dpar s hs
    by_cases hw : Int32.ofInt (-1) ≤ w ∧ w ≤ Int32.ofInt 12
    · obtain ⟨kk, hk, ew⟩ := ln_kd_of hw
      subst ew
      obtain ⟨rl, a1, a2, a3, a4⟩ := h.2 0 (by decide)
      obtain ⟨sl, b1, b2, b3, b4⟩ := h.2 2 (by decide)
      obtain ⟨ml, c1, c2, c3, c4⟩ := h.2 3 (by decide)
      obtain ⟨xl, d1, d2, d3, d4⟩ := h.2 4 (by decide)
      by_cases y1 : kk = 0 ∨ xl ≤ 255
      · by_cases y2 : rl = 0 ∨ rl = 32
        · by_cases y3 : sl = lm_dss s
          · rw [y3] at b2 b3 b4
            rcases lm_u95h (xs := xs) (d := 591) (x := x) (n := n) (kk := kk) (xl := xl) (ml := ml) (rl := rl) (hc.cok xs) hc.rt hc.dtb hx hs hk d2 d1 y1 a2 y2 b2 c2 c1 with ⟨a, y, m1, n1, k1, f1, g1, z1, w1⟩ | ⟨y, m1, n1, k1, f1, g1⟩
            · have e1 : ∀ q, q = 2 ∨ q = 3 ∨ q = 45 ∨ q = 46 ∨ q = 77 ∨ 202 < q → m1 q = m q := fun q hq => f1 q (by omega) (by omega) (by omega) (by omega) (by omega) (by omega) (by omega)
              have C1 : lm_cx m1 n1 = lm_cx m n := g1.cx (e1 221 (by decide))
              rcases lm_u30h (sc := lm_sc xs) (d := 592) (x := lm_so (Int32.ofNat (a + 1)).toInt64 x) (m := m1) (n := n1) (K := m 31) (R := m 27) (X := m 35) (Mg := m 33) (kk := kk) (xl := xl) (ml := ml) (rl := rl) C1 hs hk (by rw [e1 214 (by decide)]; exact d3) d1 (by rw [e1 214 (by decide)]; exact a3) ⟨y1, y2⟩ (by rw [e1 214 (by decide)]; exact b3) (by rw [e1 214 (by decide)]; exact c3) c1 (fun u hu => by rw [e1 208 (by decide)]; exact (b4 u hu).symm) (fun u hu => by rw [e1 206 (by decide)]; exact (a4 u hu).symm) (fun u hu => by rw [e1 210 (by decide)]; exact (d4 u hu).symm) (fun u hu => by rw [e1 209 (by decide)]; exact (c4 u hu).symm) with ⟨a', y', m2, n2, k2, q1, q2, q3, q4, q5, q6, q7⟩ | ⟨y', m2, n2, k2, q1, q2, q3, q4⟩
              · have ea := lm_sYY y y'
                subst ea
                have hps := lm_dps_e s
                have hdl : 32 * lm_dw s * lm_dl s ≤ 640 * 7 := Nat.mul_le_mul (by omega) (by omega)
                have T5 : lm_TieS m2 5 := ⟨lm_dps s, by omega, by
                  show m2 36 1 = _
                  rw [q1 36 (by decide) (by decide) (by decide) (by decide) (by decide) (by decide)]
                  exact z1, q6, fun t ht => by
                  refine lm_b8_eq ?_
                  show lm_yb (m2 37 t) = lm_yb (m2 211 t)
                  rw [q1 37 (by decide) (by decide) (by decide) (by decide) (by decide) (by decide), w1 t ht, q7 t ht]⟩
                obtain ⟨z2, z3⟩ := lm_tk (J := fun j => decide (j = 5)) (n2 := n2) h g1 e1 (fun j hj c => by
                  have := lm_j5f j hj c
                  exact ⟨f1 _ (by omega) (by omega) (by omega) (by omega) (by omega) (by omega) (by omega), f1 _ (by omega) (by omega) (by omega) (by omega) (by omega) (by omega) (by omega)⟩) (fun q hq => q1 q (by omega) (by omega) (by omega) (by omega) (by omega) (by omega)) (q2 3 (by decide) (by decide) (by decide) (by decide) (by decide) (by decide) (by decide)) (fun q hq => q3 q (by omega) (by omega) (by omega) (by omega) (by omega) (by omega)) (fun j hj c => by
                  have := lm_j5f j hj c
                  exact ⟨q5 j this, q1 _ (by omega) (by omega) (by omega) (by omega) (by omega) (by omega)⟩) (fun j hj c => by
                  have := lm_j5 j hj c
                  subst this
                  exact T5)
                refine ⟨0, Int32.ofNat (a + 1), m1, n1, _, m2, n2, lm_v29 hr.2.2.2 k1, k2, q4, fun _ => ?_, z2, z3, lm_rm_so hr⟩
                rw [lm_gv_so hr.2.2.2]
              · exact absurd y' (fun g => lm_sYN y g)
            · have e1 : ∀ q, q = 2 ∨ q = 3 ∨ q = 45 ∨ q = 46 ∨ q = 77 ∨ 202 < q → m1 q = m q := fun q hq => f1 q (by omega) (by omega) (by omega) (by omega) (by omega)
              have C1 : lm_cx m1 n1 = lm_cx m n := g1.cx (e1 221 (by decide))
              rcases lm_u30h (sc := lm_sc xs) (d := 592) (x := lm_xx 15 x) (m := m1) (n := n1) (K := m 31) (R := m 27) (X := m 35) (Mg := m 33) (kk := kk) (xl := xl) (ml := ml) (rl := rl) C1 hs hk (by rw [e1 214 (by decide)]; exact d3) d1 (by rw [e1 214 (by decide)]; exact a3) ⟨y1, y2⟩ (by rw [e1 214 (by decide)]; exact b3) (by rw [e1 214 (by decide)]; exact c3) c1 (fun u hu => by rw [e1 208 (by decide)]; exact (b4 u hu).symm) (fun u hu => by rw [e1 206 (by decide)]; exact (a4 u hu).symm) (fun u hu => by rw [e1 210 (by decide)]; exact (d4 u hu).symm) (fun u hu => by rw [e1 209 (by decide)]; exact (c4 u hu).symm) with ⟨a', y', m2, n2, k2, q1, q2, q3, q4, q5, q6, q7⟩ | ⟨y', m2, n2, k2, q1, q2, q3, q4⟩
              · exact absurd y (fun g => lm_sYN y' g)
              · obtain ⟨z2, z3⟩ := lm_tk (J := fun _ => false) (n2 := n2) h g1 e1 (fun j hj c => ⟨f1 _ (by omega) (by omega) (by omega) (by omega) (by omega), f1 _ (by omega) (by omega) (by omega) (by omega) (by omega)⟩) (fun q hq => q1 q (by omega) (by omega) (by omega) (by omega)) (q2 3 (by decide) (by decide) (by decide) (by decide) (by decide) (by decide) (by decide)) (fun q hq => q3 q (by omega) (by omega) (by omega) (by omega) (by omega) (by omega)) (fun j hj c => ⟨by rw [q1 214 (by decide) (by decide) (by decide) (by decide)], q1 _ (by omega) (by omega) (by omega) (by omega)⟩) (fun j hj c => absurd c (by decide))
                exact ⟨4, 0, m1, n1, _, m2, n2, lm_v29_15 hx k1, k2, q4, fun h => absurd h (by decide), z2, z3, lm_rm_xx hr⟩
          · have e1 : ∀ q, q ≠ 76 → lm_cdm m s q = m q := fun q hq => lm_cd_row hq
            have kc := lm_u95g (xs := xs) (d := 591) (m := m) (n := n) (x := x) (s := s) (kk := kk) (xl := xl) (rl := rl) (sl := sl) hx hs hk d2 d1 y1 a2 y2 b2 b1 y3
            have kr := lm_u30g (sc := lm_sc xs) (d := 592) (m := lm_cdm m s) (n := n) (x := lm_xx 16 x) (s := s) (kk := kk) (xl := xl) (rl := rl) (sl := sl) hs hk (by rw [e1 214 (by decide)]; exact d3) d1 (by rw [e1 214 (by decide)]; exact a3) ⟨y1, y2⟩ (by rw [e1 214 (by decide)]; exact b3) b1 y3
            obtain ⟨z2, z3⟩ := lm_tkd (s := s) (c := 3) h (lm_fN.of (n := n) (e1 11 (by decide)) (e1 17 (by decide))) e1
            exact ⟨3, 0, _, n, _, _, n, lm_v29_16 hx kc, kr, lm_u_eq, fun h => absurd h (by decide), z2, z3, lm_rm_xx hr⟩
        · have kc := lm_u95f (xs := xs) (d := 591) (m := m) (n := n) (x := x) (s := s) (kk := kk) (xl := xl) (rl := rl) hx hs hk d2 d1 y1 a2 a1 y2
          have kr := lm_u30e (sc := lm_sc xs) (d := 592) (m := m) (n := n) (x := lm_xx 14 x) (s := s) (kk := kk) (xl := xl) (rl := rl) hs hk d3 d1 a3 a1 (fun g => y2 g.2)
          obtain ⟨z2, z3⟩ := lm_tkd (s := s) (c := 2) (m1 := m) (n1 := n) h .rf (fun _ _ => rfl)
          exact ⟨2, 0, _, n, _, _, n, lm_v29_14 hx kc, kr, lm_u_eq, fun h => absurd h (by decide), z2, z3, lm_rm_xx hr⟩
      · have kc := lm_u95e (xs := xs) (d := 591) (m := m) (n := n) (x := x) (s := s) (kk := kk) (xl := xl) hx hs hk d2 d1 y1
        have kr := lm_u30e (sc := lm_sc xs) (d := 592) (m := m) (n := n) (x := lm_xx 14 x) (s := s) (kk := kk) (xl := xl) (rl := rl) hs hk d3 d1 a3 a1 (fun g => y1 g.1)
        obtain ⟨z2, z3⟩ := lm_tkd (s := s) (c := 2) (m1 := m) (n1 := n) h .rf (fun _ _ => rfl)
        exact ⟨2, 0, _, n, _, _, n, lm_v29_14 hx kc, kr, lm_u_eq, fun h => absurd h (by decide), z2, z3, lm_rm_xx hr⟩
    · exact ⟨1, 0, _, _, _, _, _, lm_v29_13 hx (lm_u95b (d := 596) hs hw hx), lm_u30b (d := 598) hs hw, lm_u_eq, fun h => absurd h (by decide), h.cod, lm_kpc, lm_rm_xx hr⟩
  · exact ⟨1, 0, _, _, _, _, _, lm_v29_13 hx (lm_u95a (d := 596) e hx), lm_u30a (d := 598) e, lm_u_eq, fun h => absurd h (by decide), h.cod, lm_kpc, lm_rm_xx hr⟩
end LMSG13
