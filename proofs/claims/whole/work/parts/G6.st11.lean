/-! ===== kemOpen: the step ===== -/
section LMSZ
variable {C : lm_CX} {s : Nat} {S S' K K' : Nat → Int32}
theorem lm_dV_ext {a d c : Nat} (hc : c < 256) (h : ∀ t, t < 32 * d → lm_b8 (K (a + t)) = lm_b8 (K' (a + t))) : lm_dV K a d c = lm_dV K' a d c := by
  have h1 : c * d + d ≤ 256 * d := by
    rw [← Nat.succ_mul]
    exact Nat.mul_le_mul_right d hc
  unfold lm_dV
  rw [lm_bv_ext (s := ln_bt (fun t => K (a + t))) (s' := ln_bt (fun t => K' (a + t))) (a := c * d) (b := c * d) (d := d) fun u hu => by
    unfold ln_bt
    dsimp only
    rw [lm_b8_ne (h ((c * d + u) / 8) (by omega))]]
theorem lm_nt_ext {F G : Nat → Int} (h : ∀ c, c < 256 → F c = G c) (j : Nat) : lm_nt F j = lm_nt G j := by
  unfold lm_nt
  rw [lm_sg_ext fun t ht => by rw [h (j % 2 + t * 2) (by omega)]]
theorem lm_dN_ext {du k j : Nat} (hj : j < k) (h : ∀ t, t < 32 * du * k → lm_b8 (K t) = lm_b8 (K' t)) (c : Nat) : lm_dN K du j c = lm_dN K' du j c := by
  have h1 : 32 * du * j + 32 * du ≤ 32 * du * k := by
    rw [← Nat.mul_succ]
    exact Nat.mul_le_mul_left _ hj
  unfold lm_dN
  rw [lm_nt_ext (F := fun c => (lm_dV K (32 * du * j) du c : Nat)) (G := fun c => (lm_dV K' (32 * du * j) du c : Nat)) (fun c hc => by
    rw [lm_dV_ext hc fun t ht => h _ (by omega)]) c]
theorem lm_dS_ext {du k : Nat} (hS : ∀ t, t < 384 * k → lm_b8 (S t) = lm_b8 (S' t)) (hK : ∀ t, t < 32 * du * k → lm_b8 (K t) = lm_b8 (K' t)) {c : Nat} (hc : c < 256) : lm_dS S K du k c = lm_dS S' K' du k c := by
  unfold lm_dS
  rw [lm_apc_ext (F := fun j => lm_T12 S 0 j) (F' := fun j => lm_T12 S' 0 j) (k := k) (fun j c hj hc => lm_T12_ext hc fun t ht => hS _ (by omega)) k (Nat.le_refl k) c hc, lm_apc_cm, lm_apc_ext (F := fun j => lm_dN K du j) (F' := fun j => lm_dN K' du j) (k := k) (fun j c hj hc => lm_dN_ext hj hK c) k (Nat.le_refl k) c hc, lm_apc_cm]
theorem lm_dM_ext {du dv k : Nat} (hS : ∀ t, t < 384 * k → lm_b8 (S t) = lm_b8 (S' t)) (hK : ∀ t, t < 32 * du * k + 32 * dv → lm_b8 (K t) = lm_b8 (K' t)) {c : Nat} (hc : c < 256) : lm_dM S K du dv k c = lm_dM S' K' du dv k c := by
  unfold lm_dM lm_dZ
  rw [lm_dV_ext hc fun t ht => hK _ (by omega), lm_un_ext (fun c hc => lm_dS_ext hS (fun t ht => hK t (by omega)) hc) c]
theorem ln_oR_ext (hs : s ≤ 2) (hS : ∀ t, t < 768 * (s + 2) + 96 → lm_b8 (S t) = lm_b8 (S' t)) (hK : ∀ t, t < lm_kps s → lm_b8 (K t) = lm_b8 (K' t)) {j : Nat} (hj : j < 32) : ln_oR S K s j = ln_oR S' K' s j := by
  have z := lm_kusz hs
  unfold ln_oR
  rw [lm_bv_ext (s := lm_ts (lm_dM S K (lm_ku s) (lm_kv s) (s + 2)) 1) (s' := lm_ts (lm_dM S' K' (lm_ku s) (lm_kv s) (s + 2)) 1) (a := 8 * j) (b := 8 * j) (d := 8) fun u hu => by
    unfold lm_ts
    rw [lm_dM_ext (fun t ht => hS t (by omega)) (fun t ht => hK t (by omega)) (by omega)]]
theorem ln_oP_ext (hs : s ≤ 2) (hS : ∀ t, t < 768 * (s + 2) + 96 → lm_b8 (S t) = lm_b8 (S' t)) (hK : ∀ t, t < lm_kps s → lm_b8 (K t) = lm_b8 (K' t)) : ln_oP C S K s = ln_oP C S' K' s := by
  funext i
  unfold ln_oP lm_kQ
  refine lm_Hm_ext fun t ht => ?_
  unfold lm_gw
  by_cases c : t < 32
  · rw [if_pos c, if_pos c, ln_oR_ext hs hS hK c]
  · rw [if_neg c, if_neg c]
    exact hS _ (by omega)
theorem ln_oE_ext (hs : s ≤ 2) (hS : ∀ t, t < 768 * (s + 2) + 96 → lm_b8 (S t) = lm_b8 (S' t)) (hK : ∀ t, t < lm_kps s → lm_b8 (K t) = lm_b8 (K' t)) : ln_oE C S K s ↔ ln_oE C S' K' s := by
  have e : ∀ t, ln_oC C S K s t = ln_oC C S' K' s t := fun t => by
    unfold ln_oC
    rw [ln_oP_ext hs hS hK]
    exact lm_wct_ext hs (fun i hi => hS _ (by omega)) (fun i hi => by rw [ln_oR_ext hs hS hK hi])
  unfold ln_oE
  constructor
  · intro h t ht
    rw [← e t, h t ht, lm_b8_ne (hK t ht)]
  · intro h t ht
    rw [e t, h t ht, lm_b8_ne (hK t ht)]
theorem ln_oJ_ext (hs : s ≤ 2) (hS : ∀ t, t < 768 * (s + 2) + 96 → lm_b8 (S t) = lm_b8 (S' t)) (hK : ∀ t, t < lm_kps s → lm_b8 (K t) = lm_b8 (K' t)) : ln_oJ C S K s = ln_oJ C S' K' s := by
  funext i
  unfold ln_oJ
  refine lm_Hm_ext fun t ht => ?_
  unfold lm_gx
  by_cases c : t < 32
  · rw [if_pos c, if_pos c]
    exact hS _ (by omega)
  · rw [if_neg c, if_neg c]
    exact hK _ (by omega)
theorem lm_ook_ext {l l2 : Nat} (hS : ∀ t, t < l2 → lm_b8 (S t) = lm_b8 (S' t)) : lm_ook C S s l l2 ↔ lm_ook C S' s l l2 := by
  unfold lm_ook lm_kok
  constructor
  · rintro ⟨a, b, c⟩
    refine ⟨a, b, fun t ht => ?_⟩
    rw [← lm_kH_ext (K := S) (K' := S') (a := 384 * (s + 2)) (a' := 384 * (s + 2)) (k := s + 2) (fun i hi => hS _ (by omega)), c t ht]
    exact hS _ (by omega)
  · rintro ⟨a, b, c⟩
    refine ⟨a, b, fun t ht => ?_⟩
    rw [lm_kH_ext (K := S) (K' := S') (a := 384 * (s + 2)) (a' := 384 * (s + 2)) (k := s + 2) (fun i hi => hS _ (by omega)), c t ht]
    exact (hS _ (by omega)).symm
end LMSZ
theorem lm_j6f : ∀ j, decide (j = 6) = false → j ≠ 6 := fun j h => of_decide_eq_false h
section LMTA
variable {xs : List Int32} {m : lm_MI} {n : lm_ML} {x : lm_H × Nat × Nat} {v : Int32}
theorem lm_st11 (hc : lm_Con m n) (h : lm_Tie m) : lm_Stp (lm_sc xs) 25 26 [.int v] m n x := by
  intro r hr
  have hx := lm_rm_room hr
  rcases lm_range v (n := 2) (by omega) with ⟨s, hs, e⟩ | e
  · subst e
    obtain ⟨l, a1, a2, a3, a4⟩ := h.2 5 (by decide)
    obtain ⟨l2, p1, p2, p3, p4⟩ := h.2 2 (by decide)
    have hS : ∀ t, t < l2 → lm_b8 (m 31 t) = lm_b8 (m 208 t) := p4
    have hK : ∀ t, t < l → lm_b8 (m 37 t) = lm_b8 (m 211 t) := a4
    have ok := lm_ook_ext (C := lm_cx m n) (s := s) (l := l) hS
    rcases lm_u79c (xs := xs) (d := 590) (x := x) (n := n) (m := m) (s := s) (l := l) (l2 := l2) (hc.cok xs) hc.rt hc.ktb hx hs a2 a1 p2 p1 with ⟨hok, cls⟩ | ⟨hno, m1, n1, c1, b1, b2⟩
    · have hok' := ok.mp hok
      obtain ⟨e1, e2, _⟩ := hok
      subst e1
      subst e2
      have eAll := lm_kAll_ext (C := lm_cx m n) (K := m 31) (K' := m 208) (a := 384 * (s + 2) + 384 * (s + 2)) (a' := 384 * (s + 2) + 384 * (s + 2)) (k := s + 2) (fun i hi => hS _ (by omega))
      rcases cls with ⟨m1, n1, b, c1, b1, b2, b3, b4, b5, b6⟩ | ⟨m1, n1, c1, b1, b2, b3⟩
      · have f : ∀ r, 202 < r → m1 r = m r := fun r hr => b2 r (by omega) (by omega) (by omega) (by omega) (by omega)
        have C1 : lm_cx m1 n1 = lm_cx m n := b3.cx (f 221 (by decide))
        rcases lm_u26c (sc := lm_sc xs) (d := 592) (x := lm_so (lm_z b).toInt64 x) (m := m1) (n := n1) (s := s) (l := lm_kps s) (l2 := 768 * (s + 2) + 96) C1 hs (by rw [f 214 (by decide)]; exact a3) a1 (by rw [f 214 (by decide)]; exact p3) p1 with ⟨_, cls⟩ | ⟨g, _⟩
        · rw [f 208 (by decide), f 211 (by decide)] at cls
          rcases cls with ⟨m2, n2, b', c2, d1, d2, d3, d4, d5, d6, d7, d8, d9⟩ | ⟨m2, n2, c2, d1, d2, d3, d4, d5⟩
          · have eb : b' = b := by
              have := b5.trans ((ln_oE_ext hs hS hK).trans d8.symm)
              cases b with
              | true => exact this.mp rfl
              | false =>
                cases b' with
                | true => exact (this.mpr rfl).symm
                | false => rfl
            subst eb
            have T6 : lm_TieS m2 6 := ⟨32, by decide, by
                show m2 38 1 = _
                rw [d2 38 (by decide) (by decide) (by decide) (by decide) (by decide)]
                exact b4, d7, fun t ht => by
                show lm_b8 (m2 39 t) = lm_b8 (m2 212 t)
                rw [d2 39 (by decide) (by decide) (by decide) (by decide) (by decide), b6 t ht, d9 t ht, ln_oP_ext hs hS hK, ln_oJ_ext hs hS hK]⟩
            obtain ⟨z1, z2⟩ := lm_tk (J := fun j => decide (j = 6)) (n2 := n2) h b3 (fun q hq => b2 q (by omega) (by omega) (by omega) (by omega) (by omega)) (fun j hj c => by
              have := lm_j6f j c
              exact ⟨b2 _ (by omega) (by omega) (by omega) (by omega) (by omega), b2 _ (by omega) (by omega) (by omega) (by omega) (by omega)⟩) (fun q hq => d2 q (by omega) (by omega) (by omega) (by omega) (by omega)) (d3 3 (by decide) (by decide) (by decide) (by decide) (by decide) (by decide)) (fun q hq => d4 q (by omega) (by omega) (by omega) (by omega) (by omega) (by omega)) (fun j hj c => by
              have := lm_j6f j c
              exact ⟨d6 j this, d2 _ (by omega) (by omega) (by omega) (by omega) (by omega)⟩) (fun j hj c => by
              have := of_decide_eq_true c
              subst this
              exact T6)
            refine ⟨0, lm_z b', m1, n1, _, m2, n2, lm_v25 hr.2.2.2 c1, c2, d5, fun _ => ?_, z1, z2, lm_rm_so hr⟩
            rw [lm_gv_so hr.2.2.2]
          · exact absurd (eAll.mp b1) d1
        · rw [f 208 (by decide)] at g
          exact absurd hok' g
      · have f : ∀ r, 202 < r → m1 r = m r := fun r hr => b2 r (by omega) (by omega) (by omega)
        have C1 : lm_cx m1 n1 = lm_cx m n := b3.cx (f 221 (by decide))
        rcases lm_u26c (sc := lm_sc xs) (d := 592) (x := lm_xx 15 x) (m := m1) (n := n1) (s := s) (l := lm_kps s) (l2 := 768 * (s + 2) + 96) C1 hs (by rw [f 214 (by decide)]; exact a3) a1 (by rw [f 214 (by decide)]; exact p3) p1 with ⟨_, cls⟩ | ⟨g, _⟩
        · rw [f 208 (by decide), f 211 (by decide)] at cls
          rcases cls with ⟨m2, n2, b', c2, d1, d2, d3, d4, d5, d6, d7, d8, d9⟩ | ⟨m2, n2, c2, d1, d2, d3, d4, d5⟩
          · exact absurd (eAll.mpr d1) b1
          · obtain ⟨z1, z2⟩ := lm_tk (J := fun _ => false) (n2 := n2) h b3 (fun q hq => b2 q (by omega) (by omega) (by omega)) (fun j hj c => ⟨b2 _ (by omega) (by omega) (by omega), b2 _ (by omega) (by omega) (by omega)⟩) (fun q hq => d2 q (by omega) (by omega) (by omega)) (d3 3 (by decide) (by decide) (by decide) (by decide) (by decide) (by decide)) (fun q hq => d4 q (by omega) (by omega) (by omega) (by omega) (by omega) (by omega)) (fun j hj c => ⟨by rw [d2 214 (by decide) (by decide) (by decide)], d2 _ (by omega) (by omega) (by omega)⟩) (fun j hj c => absurd c (by decide))
            exact ⟨3, 0, m1, n1, _, m2, n2, lm_v25_15 hx c1, c2, d5, fun h => absurd h (by decide), z1, z2, lm_rm_xx hr⟩
        · rw [f 208 (by decide)] at g
          exact absurd hok' g
    · have f : ∀ r, 202 < r → m1 r = m r := fun r hr => b1 r (by omega) (by omega) (by omega)
      have C1 : lm_cx m1 n1 = lm_cx m n := b2.cx (f 221 (by decide))
      rcases lm_u26c (sc := lm_sc xs) (d := 592) (x := lm_xx 16 x) (m := m1) (n := n1) (s := s) (l := l) (l2 := l2) C1 hs (by rw [f 214 (by decide)]; exact a3) a1 (by rw [f 214 (by decide)]; exact p3) p1 with ⟨g, _⟩ | ⟨_, m2, n2, c2, d1, d2, d3, d4⟩
      · rw [f 208 (by decide)] at g
        exact absurd (ok.mpr g) hno
      · obtain ⟨z1, z2⟩ := lm_tk (J := fun _ => false) (n2 := n2) h b2 (fun q hq => b1 q (by omega) (by omega) (by omega)) (fun j hj c => ⟨b1 _ (by omega) (by omega) (by omega), b1 _ (by omega) (by omega) (by omega)⟩) (fun q hq => d1 q (by omega) (by omega) (by omega)) (d2 3 (by decide) (by decide) (by decide) (by decide) (by decide) (by decide)) (fun q hq => d3 q (by omega) (by omega) (by omega) (by omega) (by omega) (by omega)) (fun j hj c => ⟨by rw [d1 214 (by decide) (by decide) (by decide)], d1 _ (by omega) (by omega) (by omega)⟩) (fun j hj c => absurd c (by decide))
        exact ⟨2, 0, m1, n1, _, m2, n2, lm_v25_16 hx c1, c2, d4, fun h => absurd h (by decide), z1, z2, lm_rm_xx hr⟩
  · exact ⟨1, 0, _, _, _, _, _, lm_v25_13 hx (lm_u79a (d := 596) e hx), lm_u26a (d := 598) e, lm_u_eq, fun h => absurd h (by decide), h.cod, lm_kpc, lm_rm_xx hr⟩
end LMTA
