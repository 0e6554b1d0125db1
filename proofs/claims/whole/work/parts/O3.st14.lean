/-! ===== dsaVerify: one call of both ===== -/
section LMSG14
variable {sc : lm_H} {xs : List Int32} {C : lm_CX} {d s : Nat} {m m1 m2 : lm_MI} {n n1 n2 : lm_ML} {x : lm_H × Nat × Nat} {v w : Int32}
theorem ln_j6 : ∀ j, j < 8 → decide (j = 6) = true → j = 6 := by decide
theorem ln_j6f : ∀ j, j < 8 → decide (j = 6) = false → j ≠ 6 := by decide
/-- slot 6 as it was -/
theorem lm_tk6 (h : lm_Tie m) (g1 : lm_fN m n m1 n1) (e1 : ∀ q, q = 2 ∨ q = 3 ∨ q = 45 ∨ q = 46 ∨ q = 77 ∨ 202 < q → m1 q = m q) (e2 : ∀ q, 25 < q → q < 42 → m1 q = m q) (f : lm_fV m1 n1 m2 n2) (h1 : m2 212 = m1 212) (h2 : m2 214 = m1 214) : lm_Tie m2 ∧ lm_kp m n m2 n2 :=
  lm_tk (J := fun _ => false) (n2 := n2) h g1 e1 (fun j hj c => ⟨e2 _ (by omega) (by omega), e2 _ (by omega) (by omega)⟩) (fun q hq => f.1 q (by omega) (by omega) (by omega) (by omega) (by omega) (by omega)) (f.2.1 3 (by decide) (by decide) (by decide) (by decide) (by decide) (by decide) (by decide)) (fun q hq => f.2.2 q (by omega) (by omega) (by omega) (by omega) (by omega) (by omega)) (fun j hj c => ⟨by rw [h2], by
    by_cases c6 : j = 6
    · subst c6; exact h1
    · exact f.1 _ (by omega) (by omega) (by omega) (by omega) (by omega) (by omega)⟩) (fun j hj c => absurd c (by decide))
theorem lm_st14 (hc : lm_Con m n) (h : lm_Tie m) : lm_StpZ (lm_sc xs) 31 32 [.int v, .int w] m n x := by
  intro r hr
  have hx := lm_rm_room hr
  rcases lm_range v (n := 2) (by omega) with ⟨s, hs, e⟩ | e
  · subst e
    have hkl := lm_dkl hs
    have hpar := lm_dpar s hs
    by_cases hw : Int32.ofInt (-1) ≤ w ∧ w ≤ Int32.ofInt 12
    · obtain ⟨kk, hk, ew⟩ := ln_kd_of hw
      subst ew
      obtain ⟨sl, b1, b2, b3, b4⟩ := h.2 1 (by decide)
      obtain ⟨ml, c1, c2, c3, c4⟩ := h.2 3 (by decide)
      obtain ⟨xl, d1, d2, d3, d4⟩ := h.2 4 (by decide)
      obtain ⟨pl, p1, p2, p3, p4⟩ := h.2 5 (by decide)
      by_cases y1 : kk = 0 ∨ xl ≤ 255
      · by_cases y3 : sl = 32 + 320 * lm_dk s
        · rw [y3] at b2 b3 b4
          have ref : ∀ m1 n1 x1, (∀ q, q = 2 ∨ q = 3 ∨ q = 45 ∨ q = 46 ∨ q = 77 ∨ 202 < q → m1 q = m q) → lm_fN m n m1 n1 → ∃ m' n', lm_fV m1 n1 m' n' ∧ ((¬ lm_vt (m 37) s pl ∧ lm_cal (lm_sc xs) (592 + 8) 32 [.ref 203, .int (Int32.ofNat s), .int (ln_kd kk)] (lm_w m1 n1 x1) = some (.ok (some (.int (lm_z false))), lm_w m' n' x1) ∧ m' 203 4 = 0 ∧ m' 212 = m1 212 ∧ m' 214 = m1 214) ∨ (lm_vt (m 37) s pl ∧ ln_sA (lm_cx m n) (m 29) s ∧ (lm_vB (lm_cx m n) (m 37) s).1 = 256 ∧ lm_cal (lm_sc xs) (592 + 8) 32 [.ref 203, .int (Int32.ofNat s), .int (ln_kd kk)] (lm_w m1 n1 x1) = some (.ok (some (.int (lm_z (lm_ev (fun t => lm_b8 (lm_vC (lm_cx m n) (m 29) (m 37) (lm_vM (lm_cx m n) (m 29) s kk (m 35) xl (m 33) ml) s t)) (fun t => lm_b8 (m 37 t)) (lm_dsz s) 0)))), lm_w m' n' x1) ∧ m' 203 4 = 0 ∧ (∀ j, j ≠ 6 → m' 214 j = m1 214 j) ∧ m' 214 6 = Int32.ofNat (lm_dsz s) ∧ ∀ t, t < lm_dsz s → lm_b8 (m' 212 t) = lm_b8 (lm_vC (lm_cx m n) (m 29) (m 37) (lm_vM (lm_cx m n) (m 29) s kk (m 35) xl (m 33) ml) s t)) ∨ (lm_vt (m 37) s pl ∧ ¬ (ln_sA (lm_cx m n) (m 29) s ∧ (lm_vB (lm_cx m n) (m 37) s).1 = 256) ∧ lm_cal (lm_sc xs) (592 + 8) 32 [.ref 203, .int (Int32.ofNat s), .int (ln_kd kk)] (lm_w m1 n1 x1) = some (.ok (some (.int (lm_z false))), lm_w m' n' x1) ∧ m' 203 4 = 4 ∧ m' 212 = m1 212 ∧ m' 214 = m1 214)) := by
            intro m1 n1 x1 e1 g1
            have C1 : lm_cx m1 n1 = lm_cx m n := g1.cx (e1 221 (by decide))
            exact lm_u32h (sc := lm_sc xs) (d := 592) (x := x1) (m := m1) (n := n1) (K := m 29) (Q := m 37) (X := m 35) (Mg := m 33) (kk := kk) (xl := xl) (ml := ml) (pl := pl) C1 hs hk (by rw [e1 214 (by decide)]; exact d3) d1 y1 (by rw [e1 214 (by decide)]; exact b3) (by rw [e1 214 (by decide)]; exact c3) c1 (by rw [e1 214 (by decide)]; exact p3) p1 (fun u hu => by rw [e1 207 (by decide)]; exact (b4 u hu).symm) (fun u hu => by rw [e1 211 (by decide)]; exact (p4 u hu).symm) (fun u hu => by rw [e1 210 (by decide)]; exact (d4 u hu).symm) (fun u hu => by rw [e1 209 (by decide)]; exact (c4 u hu).symm)
          rcases lm_u100h (xs := xs) (d := 591) (x := x) (n := n) (kk := kk) (xl := xl) (ml := ml) (pl := pl) (hc.cok xs) hc.rt hc.dtb hx hs hk d2 d1 y1 b2 c2 c1 p2 p1 with ⟨y, m1, k1, f1⟩ | ⟨y, ya, yb, m1, n1, k1, f1, g1, z1, w1⟩ | ⟨y, ya, m1, n1, k1, f1, g1⟩
          · have e1 : ∀ q, q = 2 ∨ q = 3 ∨ q = 45 ∨ q = 46 ∨ q = 77 ∨ 202 < q → m1 q = m q := fun q hq => f1 q (by omega) (by omega)
            have g1 : lm_fN m n m1 n := .of (f1 11 (by decide) (by decide)) (f1 17 (by decide) (by decide))
            obtain ⟨m2, n2, fv, ⟨y', k2, q1, q2, q3⟩ | ⟨y', _⟩ | ⟨y', _⟩⟩ := ref m1 n (lm_so (lm_zl false) x) e1 g1
            · obtain ⟨z2, z3⟩ := lm_tk6 h g1 e1 (fun q a b => f1 q (by omega) (by omega)) fv q2 q3
              refine ⟨0, false, m1, n, _, m2, n2, lm_v31 (b := false) hr.2.2.2 k1, k2, q1, fun _ => ?_, z2, z3, lm_rm_so hr⟩
              rw [lm_gv_so hr.2.2.2]
            · exact absurd y' y
            · exact absurd y' y
          · have e1 : ∀ q, q = 2 ∨ q = 3 ∨ q = 45 ∨ q = 46 ∨ q = 77 ∨ 202 < q → m1 q = m q := fun q hq => f1 q (by omega) (by omega) (by omega) (by omega) (by omega) (by omega) (by omega)
            obtain ⟨m2, n2, fv, ⟨y', _⟩ | ⟨y', ya', yb', k2, q1, q2, q3, q4⟩ | ⟨y', ya', _⟩⟩ := ref m1 n1 (lm_so (lm_zl (lm_ev (fun t => lm_b8 (lm_vC (lm_cx m n) (m 29) (m 37) (lm_vM (lm_cx m n) (m 29) s kk (m 35) xl (m 33) ml) s t)) (fun t => lm_b8 (m 37 t)) (lm_dsz s) 0)) x) e1 g1
            · exact absurd y y'
            · have T6 : lm_TieS m2 6 := ⟨lm_dsz s, by omega, by
                show m2 38 1 = _
                rw [fv.1 38 (by decide) (by decide) (by decide) (by decide) (by decide) (by decide)]
                exact z1, q3, fun t ht => by
                show lm_b8 (m2 39 t) = lm_b8 (m2 212 t)
                rw [fv.1 39 (by decide) (by decide) (by decide) (by decide) (by decide) (by decide), w1 t ht, q4 t ht]⟩
              obtain ⟨z2, z3⟩ := lm_tk (J := fun j => decide (j = 6)) (n2 := n2) h g1 e1 (fun j hj c => by
                have := ln_j6f j hj c
                exact ⟨f1 _ (by omega) (by omega) (by omega) (by omega) (by omega) (by omega) (by omega), f1 _ (by omega) (by omega) (by omega) (by omega) (by omega) (by omega) (by omega)⟩) (fun q hq => fv.1 q (by omega) (by omega) (by omega) (by omega) (by omega) (by omega)) (fv.2.1 3 (by decide) (by decide) (by decide) (by decide) (by decide) (by decide) (by decide)) (fun q hq => fv.2.2 q (by omega) (by omega) (by omega) (by omega) (by omega) (by omega)) (fun j hj c => by
                have := ln_j6f j hj c
                exact ⟨q2 j this, fv.1 _ (by omega) (by omega) (by omega) (by omega) (by omega) (by omega)⟩) (fun j hj c => by
                have := ln_j6 j hj c
                subst this
                exact T6)
              refine ⟨0, _, m1, n1, _, m2, n2, lm_v31 hr.2.2.2 k1, k2, q1, fun _ => ?_, z2, z3, lm_rm_so hr⟩
              rw [lm_gv_so hr.2.2.2]
            · exact absurd ⟨ya, yb⟩ ya'
          · have e1 : ∀ q, q = 2 ∨ q = 3 ∨ q = 45 ∨ q = 46 ∨ q = 77 ∨ 202 < q → m1 q = m q := fun q hq => f1 q (by omega) (by omega) (by omega) (by omega) (by omega)
            obtain ⟨m2, n2, fv, ⟨y', _⟩ | ⟨y', ya', yb', _⟩ | ⟨y', ya', k2, q1, q2, q3⟩⟩ := ref m1 n1 (lm_xx 15 x) e1 g1
            · exact absurd y y'
            · exact absurd ⟨ya', yb'⟩ ya
            · obtain ⟨z2, z3⟩ := lm_tk6 h g1 e1 (fun q a b => f1 q (by omega) (by omega) (by omega) (by omega) (by omega)) fv q2 q3
              exact ⟨4, false, m1, n1, _, m2, n2, lm_v31_15 hx k1, k2, q1, fun h => absurd h (by decide), z2, z3, lm_rm_xx hr⟩
        · have e1 : ∀ q, q ≠ 76 → lm_cdm m s q = m q := fun q hq => lm_cd_row hq
          have kc := lm_u100f (xs := xs) (d := 591) (m := m) (n := n) (x := x) (s := s) (kk := kk) (xl := xl) (sl := sl) hx hs hk d2 d1 y1 b2 b1 y3
          have kr := lm_u32g (sc := lm_sc xs) (d := 592) (m := lm_cdm m s) (n := n) (x := lm_xx 16 x) (s := s) (kk := kk) (xl := xl) (sl := sl) hs hk (by rw [e1 214 (by decide)]; exact d3) d1 y1 (by rw [e1 214 (by decide)]; exact b3) b1 y3
          obtain ⟨z2, z3⟩ := lm_tkd (s := s) (c := 3) h (lm_fN.of (n := n) (e1 11 (by decide)) (e1 17 (by decide))) e1
          exact ⟨3, false, _, n, _, _, n, lm_v31_16 hx kc, kr, lm_u_eq, fun h => absurd h (by decide), z2, z3, lm_rm_xx hr⟩
      · have kc := lm_u100e (xs := xs) (d := 591) (m := m) (n := n) (x := x) (s := s) (kk := kk) (xl := xl) hx hs hk d2 d1 y1
        have kr := lm_u32e (sc := lm_sc xs) (d := 592) (m := m) (n := n) (x := lm_xx 14 x) (s := s) (kk := kk) (xl := xl) hs hk d3 d1 y1
        obtain ⟨z2, z3⟩ := lm_tkd (s := s) (c := 2) (m1 := m) (n1 := n) h .rf (fun _ _ => rfl)
        exact ⟨2, false, _, n, _, _, n, lm_v31_14 hx kc, kr, lm_u_eq, fun h => absurd h (by decide), z2, z3, lm_rm_xx hr⟩
    · exact ⟨1, false, _, _, _, _, _, lm_v31_13 hx (lm_u100b (d := 596) hs hw hx), lm_u32b (d := 598) hs hw, lm_u_eq, fun h => absurd h (by decide), h.cod, lm_kpc, lm_rm_xx hr⟩
  · exact ⟨1, false, _, _, _, _, _, lm_v31_13 hx (lm_u100a (d := 596) e hx), lm_u32a (d := 598) e, lm_u_eq, fun h => absurd h (by decide), h.cod, lm_kpc, lm_rm_xx hr⟩
end LMSG14
