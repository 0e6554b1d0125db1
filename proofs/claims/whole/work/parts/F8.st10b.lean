/-! ===== kemWrap: the step ===== -/
theorem lm_j56 : ∀ j, j < 8 → (decide (j = 5) || decide (j = 6)) = true → j = 5 ∨ j = 6 := by decide
theorem lm_j56f : ∀ j, j < 8 → (decide (j = 5) || decide (j = 6)) = false → j ≠ 5 ∧ j ≠ 6 := by decide
section LMSY
variable {xs : List Int32} {m : lm_MI} {n : lm_ML} {x : lm_H × Nat × Nat} {v : Int32}
theorem lm_st10 (hc : lm_Con m n) (h : lm_Tie m) : lm_Stp (lm_sc xs) 23 24 [.int v] m n x := by
  intro r hr
  have hx := lm_rm_room hr
  rcases lm_range v (n := 2) (by omega) with ⟨s, hs, e⟩ | e
  · subst e
    obtain ⟨l, a1, a2, a3, a4⟩ := h.2 0 (by decide)
    obtain ⟨l1, p1, p2, p3, p4⟩ := h.2 1 (by decide)
    have hkp := lm_kusz hs
    by_cases c32 : l = 32
    · subst c32
      rcases lm_u76c (xs := xs) (d := 590) (x := x) (n := n) (m := m) (s := s) (l := l1) (hc.cok xs) hc.rt hc.ktb hx hs a2 p2 p1 with ⟨⟨el, hfit⟩, cls⟩ | ⟨hno, m1, c1, b1⟩
      · subst el
        have hfit' : lm_kfit (m 207) (s + 2) := (lm_kfit_ext (fun i hi => p4 i (by omega))).mp hfit
        have eK : ∀ i, i < 384 * (s + 2) + 32 → lm_b8 (m 29 (0 + i)) = lm_b8 (m 207 (0 + i)) := fun i hi => by rw [Nat.zero_add]; exact p4 i hi
        have eAll := lm_kAll_ext (C := lm_cx m n) (K := m 29) (K' := m 207) (a := 0 + 384 * (s + 2)) (a' := 0 + 384 * (s + 2)) (k := s + 2) (fun i hi => by rw [Nat.add_assoc]; exact eK _ (by omega))
        have eP : lm_kQ (lm_cx m n) (m 27) (lm_kH (lm_cx m n) (m 29) 0 (s + 2)) = lm_kQ (lm_cx m n) (m 206) (lm_kH (lm_cx m n) (m 207) 0 (s + 2)) := by
          rw [lm_kH_ext eK]
          exact lm_kQ_ext a4
        rcases cls with ⟨m1, n1, c1, b1, b2, b3, b4, b5, b6, b7⟩ | ⟨m1, n1, c1, b1, b2, b3⟩
        · have f : ∀ r, 202 < r → m1 r = m r := fun r hr => b2 r (by omega) (by omega) (by omega) (by omega) (by omega) (by omega) (by omega)
          have C1 : lm_cx m1 n1 = lm_cx m n := b3.cx (f 221 (by decide))
          rcases lm_u24c (sc := lm_sc xs) (d := 592) (x := lm_so (Int32.ofNat (lm_kps s)).toInt64 x) (m := m1) (n := n1) (s := s) (l := 384 * (s + 2) + 32) C1 hs (by rw [f 214 (by decide)]; exact a3) (by rw [f 214 (by decide)]; exact p3) p1 with ⟨_, cls⟩ | ⟨g, _⟩
          · rw [f 207 (by decide), f 206 (by decide)] at cls
            rcases cls with ⟨m2, n2, c2, d1, d2, d3, d4, d5, d6, d7, d8, d9, d10⟩ | ⟨m2, n2, c2, d1, d2, d3, d4, d5⟩
            · have T5 : lm_TieS m2 5 := ⟨lm_kps s, by omega, by
                  show m2 36 1 = _
                  rw [d2 36 (by decide) (by decide) (by decide) (by decide) (by decide) (by decide)]
                  exact b4, d7, fun t ht => by
                  refine lm_b8_eq ?_
                  show lm_yb (m2 37 t) = lm_yb (m2 211 t)
                  rw [d2 37 (by decide) (by decide) (by decide) (by decide) (by decide) (by decide), b6 t ht, d9 t ht, eP]
                  exact lm_wct_ext hs eK a4⟩
              have T6 : lm_TieS m2 6 := ⟨32, by decide, by
                  show m2 38 1 = _
                  rw [d2 38 (by decide) (by decide) (by decide) (by decide) (by decide) (by decide)]
                  exact b5, d8, fun t ht => by
                  show lm_b8 (m2 39 t) = lm_b8 (m2 212 t)
                  rw [d2 39 (by decide) (by decide) (by decide) (by decide) (by decide) (by decide), b7 t ht, d10 t ht, eP]⟩
              obtain ⟨z1, z2⟩ := lm_tk (J := fun j => decide (j = 5) || decide (j = 6)) (n2 := n2) h b3 (fun q hq => b2 q (by omega) (by omega) (by omega) (by omega) (by omega) (by omega) (by omega)) (fun j hj c => by
                have := lm_j56f j hj c
                exact ⟨b2 _ (by omega) (by omega) (by omega) (by omega) (by omega) (by omega) (by omega), b2 _ (by omega) (by omega) (by omega) (by omega) (by omega) (by omega) (by omega)⟩) (fun q hq => d2 q (by omega) (by omega) (by omega) (by omega) (by omega) (by omega)) (d3 3 (by decide) (by decide) (by decide) (by decide) (by decide) (by decide)) (fun q hq => d4 q (by omega) (by omega) (by omega) (by omega) (by omega) (by omega)) (fun j hj c => by
                have := lm_j56f j hj c
                exact ⟨d6 j this.1 this.2, d2 _ (by omega) (by omega) (by omega) (by omega) (by omega) (by omega)⟩) (fun j hj c => by
                rcases lm_j56 j hj c with e | e
                · subst e; exact T5
                · subst e; exact T6)
              refine ⟨0, Int32.ofNat (lm_kps s), m1, n1, _, m2, n2, lm_v23 hr.2.2.2 c1, c2, d5, fun _ => ?_, z1, z2, lm_rm_so hr⟩
              rw [lm_gv_so hr.2.2.2]
            · exact absurd (eAll.mp b1) d1
          · exact absurd ⟨rfl, by rw [f 207 (by decide)]; exact hfit'⟩ g
        · have f : ∀ r, 202 < r → m1 r = m r := fun r hr => b2 r (by omega) (by omega) (by omega)
          have C1 : lm_cx m1 n1 = lm_cx m n := b3.cx (f 221 (by decide))
          rcases lm_u24c (sc := lm_sc xs) (d := 592) (x := lm_xx 15 x) (m := m1) (n := n1) (s := s) (l := 384 * (s + 2) + 32) C1 hs (by rw [f 214 (by decide)]; exact a3) (by rw [f 214 (by decide)]; exact p3) p1 with ⟨_, cls⟩ | ⟨g, _⟩
          · rw [f 207 (by decide), f 206 (by decide)] at cls
            rcases cls with ⟨m2, n2, c2, d1, d2, d3, d4, d5, d6, d7, d8, d9, d10⟩ | ⟨m2, n2, c2, d1, d2, d3, d4, d5⟩
            · exact absurd (eAll.mpr d1) b1
            · obtain ⟨z1, z2⟩ := lm_tk (J := fun _ => false) (n2 := n2) h b3 (fun q hq => b2 q (by omega) (by omega) (by omega)) (fun j hj c => ⟨b2 _ (by omega) (by omega) (by omega), b2 _ (by omega) (by omega) (by omega)⟩) (fun q hq => d2 q (by omega) (by omega) (by omega)) (d3 3 (by decide) (by decide) (by decide) (by decide) (by decide) (by decide)) (fun q hq => d4 q (by omega) (by omega) (by omega) (by omega) (by omega) (by omega)) (fun j hj c => ⟨by rw [d2 214 (by decide) (by decide) (by decide)], d2 _ (by omega) (by omega) (by omega)⟩) (fun j hj c => absurd c (by decide))
              exact ⟨4, 0, m1, n1, _, m2, n2, lm_v23_15 hx c1, c2, d5, fun h => absurd h (by decide), z1, z2, lm_rm_xx hr⟩
          · exact absurd ⟨rfl, by rw [f 207 (by decide)]; exact hfit'⟩ g
      · have f : ∀ r, 202 < r → m1 r = m r := fun r hr => b1 r (by omega) (by omega)
        have f0 : lm_fN m n m1 n := .of (b1 11 (by decide) (by decide)) (b1 17 (by decide) (by decide))
        have C1 : lm_cx m1 n = lm_cx m n := f0.cx (f 221 (by decide))
        have hno' : ¬ (l1 = 384 * (s + 2) + 32 ∧ lm_kfit (m 207) (s + 2)) := fun g => by
          obtain ⟨g1, g2⟩ := g
          subst g1
          exact hno ⟨rfl, (lm_kfit_ext (fun i hi => p4 i (by omega))).mpr g2⟩
        rcases lm_u24c (sc := lm_sc xs) (d := 592) (x := lm_xx 16 x) (m := m1) (n := n) (s := s) (l := l1) C1 hs (by rw [f 214 (by decide)]; exact a3) (by rw [f 214 (by decide)]; exact p3) p1 with ⟨g, _⟩ | ⟨_, m2, c2, d1, d2, d3⟩
        · rw [f 207 (by decide)] at g
          exact absurd g hno'
        · obtain ⟨z1, z2⟩ := lm_tk (J := fun _ => false) (n2 := n) h f0 (fun q hq => b1 q (by omega) (by omega)) (fun j hj c => ⟨b1 _ (by omega) (by omega), b1 _ (by omega) (by omega)⟩) (fun q hq => d1 q (by omega) (by omega)) (d2 3 (by decide) (by decide) (by decide)) (fun q hq => rfl) (fun j hj c => ⟨by rw [d1 214 (by decide) (by decide)], d1 _ (by omega) (by omega)⟩) (fun j hj c => absurd c (by decide))
          exact ⟨3, 0, m1, n, _, m2, n, lm_v23_16 hx c1, c2, d3, fun h => absurd h (by decide), z1, z2, lm_rm_xx hr⟩
    · exact ⟨2, 0, _, _, _, _, _, lm_v23_14 hx (lm_u76b (d := 597) hs a2 a1 c32 hx), lm_u24b (d := 598) hs a3 a1 c32, lm_u_eq, fun h => absurd h (by decide), h.cod, lm_kpc, lm_rm_xx hr⟩
  · exact ⟨1, 0, _, _, _, _, _, lm_v23_13 hx (lm_u76a (d := 597) e hx), lm_u24a (d := 598) e, lm_u_eq, fun h => absurd h (by decide), h.cod, lm_kpc, lm_rm_xx hr⟩
end LMSY
