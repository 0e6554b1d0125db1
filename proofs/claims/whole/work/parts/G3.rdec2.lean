/-! ===== kemOpen of the reference: the sum, the bits ===== -/
section LMRE
variable {sc : lm_H} {C : lm_CX} {d k e du dv : Nat} {m m0 : lm_MI} {n n0 : lm_ML} {x : lm_H × Nat × Nat} {x2 x3 : Int32}
/-- the sum as the reference has it -/
def lm_dA (S K : Nat → Int32) (du : Nat) : Nat → Nat → Int := lm_apr (fun _ => 0) (fun j => lm_dN K du j) (fun j c => lm_T12 S 0 j c % 3329)
theorem lm_dA_rg {S K : Nat → Int32} (j : Nat) : lm_rg 4095 (lm_dA S K du j) := lm_apr_rg (fun c _ => by show 0 ≤ (0 : Int) ∧ (0 : Int) ≤ 4095; decide) j
theorem lm_dA_cg {S K : Nat → Int32} (j c : Nat) : ln_cg 3329 (lm_dA S K du j c) (lm_dS S K du j c) := by
  have := lm_apc_cg (S := fun _ => 0) (S' := fun _ => 0) (F := fun j => lm_dN K du j) (F' := fun j => lm_dN K du j) (H := fun j c => lm_T12 S 0 j c % 3329) (H' := fun j => lm_T12 S 0 j) (fun _ => ln_cg.rf) (fun _ _ => ln_cg.rf) (fun _ _ => ln_cg.em) j c
  unfold lm_dA lm_dS
  rw [lm_apc_cm]
  exact this
theorem lm_l26s (h : lm_RK0 C k e m n) (h34 : m 203 34 = Int32.ofNat du) (hk : k ≤ 4) (hdu1 : 1 ≤ du) (hdu : du ≤ 11) (hS : ∀ c, c < 256 → m 243 c = Int32.ofInt 0) : ∃ m' n', ((∀ r, r ≠ 203 → (r < 243 ∨ 245 < r) → m' r = m r) ∧ lm_fB m n m' n' ∧ ∀ c, c < 256 → m' 243 c = Int32.ofInt (lm_dA (m 208) (m 211) du k c)) ∧ ∀ R, lm_rn sc (d + 7) lm_m26.2.2.2.2.1 (lm_reg lm_m26.2.2.2.2.2) (171, [(0, .ref 203), (2, .int x2), (3, .int x3), (5, .int (Int32.ofNat k))], []) (lm_w m' n' x) = some R → lm_rn sc (d + 7) lm_m26.2.2.2.2.1 (lm_reg lm_m26.2.2.2.2.2) (171, [(0, .ref 203), (2, .int x2), (3, .int x3), (5, .int (Int32.ofNat 0))], []) (lm_w m n x) = some R := by
  refine lm_lp (sc := sc) (d := d + 7) (b := k) (hs := lm_m26.2.2.2.2.1) (code := lm_reg lm_m26.2.2.2.2.2) (x := x) (fr := fun j => (171, [(0, .ref 203), (2, .int x2), (3, .int x3), (5, .int (Int32.ofNat j))], [])) (I := fun j m' n' => (∀ r, r ≠ 203 → (r < 243 ∨ 245 < r) → m' r = m r) ∧ lm_fB m n m' n' ∧ ∀ c, c < 256 → m' 243 c = Int32.ofInt (lm_dA (m 208) (m 211) du j c)) (fun j hj m1 n1 ⟨h1, h2, h3⟩ => ?_) k 0 (by omega) m n ⟨fun _ _ _ => rfl, .rf, hS⟩
  have g1 : lm_RK0 C k e m1 n1 := h.keepB h2 (h1 221 (by decide) (by decide)) (h1 231 (by decide) (by decide))
  have e34 : m1 203 34 = Int32.ofNat du := by rw [h2.1 34 (by decide) (by decide) (by decide) (by decide)]; exact h34
  generalize eM : lm_u m1 203 24 (Int32.ofNat (256 * du * j)) = M
  have rM : ∀ r, r ≠ 203 → M r = m1 r := fun r hr => by rw [← eM, lm_u_row hr]
  have fM : ∀ i, i ≠ 24 → M 203 i = m1 203 i := fun i hi => by rw [← eM, lm_u_ne (fun g => hi g.2)]
  obtain ⟨m2, a1, a2, a3, k2⟩ := lm_l26u (sc := sc) (d := d) (m := M) (n := n1) (x := x) (du := du) (x2 := x2) (x3 := x3) (j := j) (by rw [fM 34 (by decide)]; exact e34) hdu1 hdu (by omega) (by rw [← eM, lm_u_eq])
  rw [rM 211 (by decide), h1 211 (by decide) (by decide)] at a3
  have r2 : ∀ r, r ≠ 203 → r ≠ 244 → m2 r = m1 r := fun r q1 q2 => by rw [a1 r q1 q2, rM r q1]
  have f2 : ∀ i, i ≠ 24 → m2 203 i = m1 203 i := fun i hi => by rw [a2 i hi, fM i hi]
  have B2 : lm_fB m1 n1 m2 n1 := .p f2
  obtain ⟨m3, n3, c3, p3, q3⟩ := lm_u71 (sc := sc) (d := d + 5) (m := m2) (n := n1) (x := x) (p := 244) (G := fun c => (lm_dV (m 211) (32 * du * j) du c : Nat)) rfl (by rw [r2 231 (by decide) (by decide)]; exact g1.2.2.2) (fun c hc => by
    have := lm_dV_le (K := m 211) (a := 32 * du * j) (c := c) hdu1 hdu
    dsimp only
    omega) (fun c hc => by rw [a3 c hc, lm_oN])
  generalize eM3 : lm_u m3 203 24 (Int32.ofNat (3072 * j)) = M3
  have rM3 : ∀ r, r ≠ 203 → M3 r = m3 r := fun r hr => by rw [← eM3, lm_u_row hr]
  have fM3 : ∀ i, i ≠ 24 → M3 203 i = m3 203 i := fun i hi => by rw [← eM3, lm_u_ne (fun g => hi g.2)]
  obtain ⟨m4, b1, b2, b3, k4⟩ := lm_l26t (sc := sc) (d := d) (m := M3) (n := n3) (x := x) (x2 := x2) (x3 := x3) (j := j) (by omega) (by rw [← eM3, lm_u_eq])
  rw [rM3 208 (by decide), p3.1 208 (by decide), r2 208 (by decide) (by decide), h1 208 (by decide) (by decide)] at b3
  have r4 : ∀ r, r ≠ 203 → r ≠ 244 → r ≠ 245 → m4 r = m1 r := fun r q1 q2 q4 => by rw [b1 r q1 q4, rM3 r q1, p3.1 r q2, r2 r q1 q2]
  have f4 : ∀ i, i ≠ 24 → m4 203 i = m1 203 i := fun i hi => by rw [b2 i hi, fM3 i hi, p3.1 203 (by decide), f2 i hi]
  obtain ⟨m5, c5, p5⟩ := lm_u73 (sc := sc) (d := d + 5) (n := n3) (x := x) (m0 := m4) (m := m4) (i0 := 243) (f := 244) (g := 245) (S := lm_dA (m 208) (m 211) du j) (F := lm_dN (m 211) du j) (H := fun c => lm_T12 (m 208) 0 j c % 3329) rfl rfl rfl (by decide) (by decide) (by decide) (fun t ht => by rw [r4 231 (by decide) (by decide) (by decide)]; exact g1.2.2.2 t ht) ⟨fun _ _ => rfl, fun c hc => by rw [r4 243 (by decide) (by decide) (by decide)]; exact h3 c hc⟩ (fun c hc => by rw [b1 244 (by decide) (by decide), rM3 244 (by decide)]; exact p3.2 c hc) b3 (lm_dA_rg j) (lm_dN_b.le (by decide)) (fun c _ => by
    have := lm_m3329 (lm_T12 (m 208) 0 j c)
    show 0 ≤ lm_T12 (m 208) 0 j c % 3329 ∧ lm_T12 (m 208) 0 j c % 3329 ≤ 4095
    omega)
  have B5 : lm_fB m1 n1 m5 n3 := ⟨fun i _ _ _ hi => by rw [p5.1 203 (by decide), f4 i hi], fun q _ _ _ _ _ hq => q3 q hq⟩
  refine ⟨m5, n3, ⟨fun r q1 q2 => by rw [p5.1 r (by omega), r4 r q1 (by omega) (by omega), h1 r q1 q2], h2.tr B5, p5.2⟩, fun R K => lm_e26_171 ?_⟩
  unfold lm_q26_171
  repeat (first
    | ((with_reducible apply lm_sI); exact rfl)
    | ((with_reducible apply lm_sR); exact rfl)
    | ((with_reducible apply lm_sS); exact rfl; exact rfl)
    | ((with_reducible apply lm_sL); exact rfl)
    | ((with_reducible apply lm_sP); exact rfl; exact rfl)
    | ((with_reducible apply lm_sPL); exact rfl; exact rfl)
    | ((with_reducible apply lm_sAA); exact rfl; exact rfl)
    | ((with_reducible apply lm_sA); (first | exact rfl | assumption); omega)
    | ((with_reducible apply lm_sJ); (first | exact rfl | assumption); omega)
    | ((with_reducible apply lm_sB); (first | exact rfl | assumption); omega)
    | ((with_reducible apply lm_wA); (first | exact rfl | assumption); omega)
    | ((with_reducible apply lm_wJ); (first | exact rfl | assumption); omega)
    | ((with_reducible apply lm_wB); (first | exact rfl | assumption); omega)
    | ((with_reducible apply lm_sAl); (first | exact rfl | assumption); omega)
    | ((with_reducible apply lm_iW); decide))
  simp only [Nat.reduceDiv, Nat.reduceMod]
  rw [g1.2.1]
  refine lm_geF (by omega) (by omega) (by omega) ?_
  repeat (first
    | ((with_reducible apply lm_sI); exact rfl)
    | ((with_reducible apply lm_sR); exact rfl)
    | ((with_reducible apply lm_sS); exact rfl; exact rfl)
    | ((with_reducible apply lm_sL); exact rfl)
    | ((with_reducible apply lm_sP); exact rfl; exact rfl)
    | ((with_reducible apply lm_sPL); exact rfl; exact rfl)
    | ((with_reducible apply lm_sAA); exact rfl; exact rfl)
    | ((with_reducible apply lm_sA); (first | exact rfl | assumption); omega)
    | ((with_reducible apply lm_sJ); (first | exact rfl | assumption); omega)
    | ((with_reducible apply lm_sB); (first | exact rfl | assumption); omega)
    | ((with_reducible apply lm_wA); (first | exact rfl | assumption); omega)
    | ((with_reducible apply lm_wJ); (first | exact rfl | assumption); omega)
    | ((with_reducible apply lm_wB); (first | exact rfl | assumption); omega)
    | ((with_reducible apply lm_sAl); (first | exact rfl | assumption); omega)
    | ((with_reducible apply lm_iW); decide))
  simp only [Nat.reduceDiv, Nat.reduceMod]
  rw [e34, lm_K256, lm_om, lm_om, lm_K0]
  repeat (first
    | ((with_reducible apply lm_sI); exact rfl)
    | ((with_reducible apply lm_sR); exact rfl)
    | ((with_reducible apply lm_sS); exact rfl; exact rfl)
    | ((with_reducible apply lm_sL); exact rfl)
    | ((with_reducible apply lm_sP); exact rfl; exact rfl)
    | ((with_reducible apply lm_sPL); exact rfl; exact rfl)
    | ((with_reducible apply lm_sAA); exact rfl; exact rfl)
    | ((with_reducible apply lm_sA); (first | exact rfl | assumption); omega)
    | ((with_reducible apply lm_sJ); (first | exact rfl | assumption); omega)
    | ((with_reducible apply lm_sB); (first | exact rfl | assumption); omega)
    | ((with_reducible apply lm_wA); (first | exact rfl | assumption); omega)
    | ((with_reducible apply lm_wJ); (first | exact rfl | assumption); omega)
    | ((with_reducible apply lm_wB); (first | exact rfl | assumption); omega)
    | ((with_reducible apply lm_sAl); (first | exact rfl | assumption); omega)
    | ((with_reducible apply lm_iW); decide))
  rw [eM]
  refine k2 R (lm_e26_198 ?_)
  unfold lm_q26_198
  rw [lm_K256, lm_K11, lm_K3072, lm_K0]
  refine lm_geT (by omega) (by omega) (by omega) ?_
  repeat (first
    | ((with_reducible apply lm_sI); exact rfl)
    | ((with_reducible apply lm_sR); exact rfl)
    | ((with_reducible apply lm_sS); exact rfl; exact rfl)
    | ((with_reducible apply lm_sL); exact rfl)
    | ((with_reducible apply lm_sP); exact rfl; exact rfl)
    | ((with_reducible apply lm_sPL); exact rfl; exact rfl)
    | ((with_reducible apply lm_sAA); exact rfl; exact rfl)
    | ((with_reducible apply lm_sA); (first | exact rfl | assumption); omega)
    | ((with_reducible apply lm_sJ); (first | exact rfl | assumption); omega)
    | ((with_reducible apply lm_sB); (first | exact rfl | assumption); omega)
    | ((with_reducible apply lm_wA); (first | exact rfl | assumption); omega)
    | ((with_reducible apply lm_wJ); (first | exact rfl | assumption); omega)
    | ((with_reducible apply lm_wB); (first | exact rfl | assumption); omega)
    | ((with_reducible apply lm_sAl); (first | exact rfl | assumption); omega)
    | ((with_reducible apply lm_iW); decide))
  refine lm_cV c3 ?_
  rw [lm_om]
  repeat (first
    | ((with_reducible apply lm_sI); exact rfl)
    | ((with_reducible apply lm_sR); exact rfl)
    | ((with_reducible apply lm_sS); exact rfl; exact rfl)
    | ((with_reducible apply lm_sL); exact rfl)
    | ((with_reducible apply lm_sP); exact rfl; exact rfl)
    | ((with_reducible apply lm_sPL); exact rfl; exact rfl)
    | ((with_reducible apply lm_sAA); exact rfl; exact rfl)
    | ((with_reducible apply lm_sA); (first | exact rfl | assumption); omega)
    | ((with_reducible apply lm_sJ); (first | exact rfl | assumption); omega)
    | ((with_reducible apply lm_sB); (first | exact rfl | assumption); omega)
    | ((with_reducible apply lm_wA); (first | exact rfl | assumption); omega)
    | ((with_reducible apply lm_wJ); (first | exact rfl | assumption); omega)
    | ((with_reducible apply lm_wB); (first | exact rfl | assumption); omega)
    | ((with_reducible apply lm_sAl); (first | exact rfl | assumption); omega)
    | ((with_reducible apply lm_iW); decide))
  rw [eM3]
  refine k4 R (lm_e26_268 ?_)
  unfold lm_q26_268
  rw [lm_K256, lm_K10, lm_K11, lm_K12, lm_K1]
  refine lm_geT (by omega) (by omega) (by omega) ?_
  repeat (first
    | ((with_reducible apply lm_sI); exact rfl)
    | ((with_reducible apply lm_sR); exact rfl)
    | ((with_reducible apply lm_sS); exact rfl; exact rfl)
    | ((with_reducible apply lm_sL); exact rfl)
    | ((with_reducible apply lm_sP); exact rfl; exact rfl)
    | ((with_reducible apply lm_sPL); exact rfl; exact rfl)
    | ((with_reducible apply lm_sAA); exact rfl; exact rfl)
    | ((with_reducible apply lm_sA); (first | exact rfl | assumption); omega)
    | ((with_reducible apply lm_sJ); (first | exact rfl | assumption); omega)
    | ((with_reducible apply lm_sB); (first | exact rfl | assumption); omega)
    | ((with_reducible apply lm_wA); (first | exact rfl | assumption); omega)
    | ((with_reducible apply lm_wJ); (first | exact rfl | assumption); omega)
    | ((with_reducible apply lm_wB); (first | exact rfl | assumption); omega)
    | ((with_reducible apply lm_sAl); (first | exact rfl | assumption); omega)
    | ((with_reducible apply lm_iW); decide))
  refine lm_cV c5 ?_
  rw [lm_oo]
  exact K
/-- the last polynomial -/
theorem lm_l26v {T : Nat} (h35 : m 203 35 = Int32.ofNat dv) (hdv1 : 1 ≤ dv) (hdv : dv ≤ 11) (hb : T ≤ 1408) (hT : m 203 24 = Int32.ofNat (8 * T)) : ∃ m', (∀ r, r ≠ 203 → r ≠ 244 → m' r = m r) ∧ (∀ i, i ≠ 24 → m' 203 i = m 203 i) ∧ (∀ c, c < 256 → m' 244 c = Int32.ofNat (lm_dV (m 211) T dv c)) ∧ ∀ R, lm_rn sc (d + 7) lm_m26.2.2.2.2.1 (lm_reg lm_m26.2.2.2.2.2) (371, [(0, .ref 203), (2, .int x2), (3, .int x3), (5, .int (Int32.ofNat 256))], []) (lm_w m' n x) = some R → lm_rn sc (d + 7) lm_m26.2.2.2.2.1 (lm_reg lm_m26.2.2.2.2.2) (371, [(0, .ref 203), (2, .int x2), (3, .int x3), (5, .int (Int32.ofNat 0))], []) (lm_w m n x) = some R := by
  have hp := lm_p12 hdv
  obtain ⟨m', n', ⟨en, h1, h2, h3, h4⟩, k1⟩ := lm_lp (sc := sc) (d := d + 7) (b := 256) (hs := lm_m26.2.2.2.2.1) (code := lm_reg lm_m26.2.2.2.2.2) (x := x) (fr := fun c => (371, [(0, .ref 203), (2, .int x2), (3, .int x3), (5, .int (Int32.ofNat c))], [])) (I := fun c m' n' => n' = n ∧ (∀ r, r ≠ 203 → r ≠ 244 → m' r = m r) ∧ (∀ i, i ≠ 24 → m' 203 i = m 203 i) ∧ m' 203 24 = Int32.ofNat (8 * T + dv * c) ∧ ∀ c', c' < c → m' 244 c' = Int32.ofNat (lm_dV (m 211) T dv c')) (fun c hc m1 n1 ⟨en, h1, h2, h3, h4⟩ => by
    have hT2 : dv * c + dv ≤ 11 * 256 := by
      rw [← Nat.mul_succ]
      exact Nat.mul_le_mul hdv hc
    have c2 := lm_u77 (sc := sc) (e := d + 5) (m := m1) (n := n1) (x := x) (q := 211) (v := 65536) (a := 0) (d := dv) (T := 8 * T + dv * c) rfl (by decide) h3 (by omega) (by decide) (by omega)
    have eV : ln_bv (ln_bt (fun t => m1 211 (0 + t))) (8 * T + dv * c) dv = ln_bv (ln_bt (fun t => m 211 (T + t))) (c * dv) dv := by
      rw [h1 211 (by decide) (by decide), lm_bt_sh, Nat.mul_comm dv c]
    rw [eV] at c2
    have hlt := lm_bv_lt (s := ln_bt (fun t => m 211 (T + t))) (a := c * dv) (d := dv)
    generalize eM : lm_u m1 203 24 (Int32.ofNat (8 * T + dv * c + dv)) = M at c2
    have rM : ∀ r, r ≠ 203 → M r = m1 r := fun r hr => by rw [← eM, lm_u_row hr]
    have fM : ∀ i, i ≠ 24 → M 203 i = m1 203 i := fun i hi => by rw [← eM, lm_u_ne (fun g => hi g.2)]
    have e35 : m1 203 35 = Int32.ofNat dv := by rw [h2 35 (by decide)]; exact h35
    have e35' : M 203 35 = Int32.ofNat dv := by rw [fM 35 (by decide)]; exact e35
    refine ⟨lm_u M 244 c (Int32.ofNat (lm_dV (m 211) T dv c)), n1, ⟨en, fun r r1 r2 => by rw [lm_u_row r2, rM r r1, h1 r r1 r2], fun i hi => by rw [lm_u_row (by decide), fM i hi, h2 i hi], by rw [lm_u_row (by decide), ← eM, lm_u_eq, Nat.mul_succ, Nat.add_assoc], fun c' hc' => ?_⟩, fun R K => lm_e26_371 ?_⟩
    · by_cases c0 : c' = c
      · subst c0; rw [lm_u_eq]
      · rw [lm_u_ne (by omega), rM 244 (by decide)]; exact h4 c' (by omega)
    · unfold lm_q26_371
      rw [lm_K256, lm_K11, lm_K5, lm_K0, lm_K1]
      refine lm_geF (by omega) (by omega) (by omega) ?_
      repeat (first
    | ((with_reducible apply lm_sI); exact rfl)
    | ((with_reducible apply lm_sR); exact rfl)
    | ((with_reducible apply lm_sS); exact rfl; exact rfl)
    | ((with_reducible apply lm_sL); exact rfl)
    | ((with_reducible apply lm_sP); exact rfl; exact rfl)
    | ((with_reducible apply lm_sPL); exact rfl; exact rfl)
    | ((with_reducible apply lm_sAA); exact rfl; exact rfl)
    | ((with_reducible apply lm_sA); (first | exact rfl | assumption); omega)
    | ((with_reducible apply lm_sJ); (first | exact rfl | assumption); omega)
    | ((with_reducible apply lm_sB); (first | exact rfl | assumption); omega)
    | ((with_reducible apply lm_wA); (first | exact rfl | assumption); omega)
    | ((with_reducible apply lm_wJ); (first | exact rfl | assumption); omega)
    | ((with_reducible apply lm_wB); (first | exact rfl | assumption); omega)
    | ((with_reducible apply lm_sAl); (first | exact rfl | assumption); omega)
    | ((with_reducible apply lm_iW); decide))
      simp only [Nat.reduceDiv, Nat.reduceMod]
      rw [e35]
      refine lm_cI c2 ?_
      repeat (first
    | ((with_reducible apply lm_sI); exact rfl)
    | ((with_reducible apply lm_sR); exact rfl)
    | ((with_reducible apply lm_sS); exact rfl; exact rfl)
    | ((with_reducible apply lm_sL); exact rfl)
    | ((with_reducible apply lm_sP); exact rfl; exact rfl)
    | ((with_reducible apply lm_sPL); exact rfl; exact rfl)
    | ((with_reducible apply lm_sAA); exact rfl; exact rfl)
    | ((with_reducible apply lm_sA); (first | exact rfl | assumption); omega)
    | ((with_reducible apply lm_sJ); (first | exact rfl | assumption); omega)
    | ((with_reducible apply lm_sB); (first | exact rfl | assumption); omega)
    | ((with_reducible apply lm_wA); (first | exact rfl | assumption); omega)
    | ((with_reducible apply lm_wJ); (first | exact rfl | assumption); omega)
    | ((with_reducible apply lm_wB); (first | exact rfl | assumption); omega)
    | ((with_reducible apply lm_sAl); (first | exact rfl | assumption); omega)
    | ((with_reducible apply lm_iW); decide))
      simp only [Nat.reduceDiv, Nat.reduceMod]
      rw [e35']
      refine lm_cI (lm_u82 (e := d + 6) hdv (by omega)) ?_
      repeat (first
    | ((with_reducible apply lm_sI); exact rfl)
    | ((with_reducible apply lm_sR); exact rfl)
    | ((with_reducible apply lm_sS); exact rfl; exact rfl)
    | ((with_reducible apply lm_sL); exact rfl)
    | ((with_reducible apply lm_sP); exact rfl; exact rfl)
    | ((with_reducible apply lm_sPL); exact rfl; exact rfl)
    | ((with_reducible apply lm_sAA); exact rfl; exact rfl)
    | ((with_reducible apply lm_sA); (first | exact rfl | assumption); omega)
    | ((with_reducible apply lm_sJ); (first | exact rfl | assumption); omega)
    | ((with_reducible apply lm_sB); (first | exact rfl | assumption); omega)
    | ((with_reducible apply lm_wA); (first | exact rfl | assumption); omega)
    | ((with_reducible apply lm_wJ); (first | exact rfl | assumption); omega)
    | ((with_reducible apply lm_wB); (first | exact rfl | assumption); omega)
    | ((with_reducible apply lm_sAl); (first | exact rfl | assumption); omega)
    | ((with_reducible apply lm_iW); decide))
      rw [lm_oo]
      exact K) 256 0 (by omega) m n ⟨rfl, fun _ _ _ => rfl, fun _ _ => rfl, hT, fun c' hc' => absurd hc' (by omega)⟩
  subst en
  exact ⟨m', h1, h2, h4, k1⟩
/-- the bits of the plain text -/
theorem lm_l26m {V : Nat → Nat} {U : Nat → Int} {Z : Nat → Int} (hV : ∀ c, c < 256 → m 244 c = Int32.ofNat (V c) ∧ V c ≤ 3329) (hU : ∀ c, c < 256 → m 243 c = Int32.ofInt (U c) ∧ 0 ≤ U c ∧ U c < 3329) (hZ : ∀ c, c < 256 → ((V c : Int) - U c + 3329) % 3329 = Z c) (hT : m 203 24 = Int32.ofNat 0) : ∃ m', (∀ r, r ≠ 203 → r ≠ 267 → m' r = m r) ∧ (∀ i, i ≠ 24 → m' 203 i = m 203 i) ∧ (∀ j, j < 32 → lm_yb (m' 267 j) = ln_bv (lm_ts (fun c => lm_co 1 (Z c).toNat) 1) (8 * j) 8) ∧ ∀ R, lm_rn sc (d + 7) lm_m26.2.2.2.2.1 (lm_reg lm_m26.2.2.2.2.2) (425, [(0, .ref 203), (2, .int x2), (3, .int x3), (5, .int (Int32.ofNat 256))], []) (lm_w m' n x) = some R → lm_rn sc (d + 7) lm_m26.2.2.2.2.1 (lm_reg lm_m26.2.2.2.2.2) (425, [(0, .ref 203), (2, .int x2), (3, .int x3), (5, .int (Int32.ofNat 0))], []) (lm_w m n x) = some R := by
  obtain ⟨m', n', ⟨en, h1, h2, h3, h4⟩, k1⟩ := lm_lp (sc := sc) (d := d + 7) (b := 256) (hs := lm_m26.2.2.2.2.1) (code := lm_reg lm_m26.2.2.2.2.2) (x := x) (fr := fun c => (425, [(0, .ref 203), (2, .int x2), (3, .int x3), (5, .int (Int32.ofNat c))], [])) (I := fun c m' n' => n' = n ∧ (∀ r, r ≠ 203 → r ≠ 267 → m' r = m r) ∧ (∀ i, i ≠ 24 → m' 203 i = m 203 i) ∧ m' 203 24 = Int32.ofNat c ∧ lm_PB m' 267 0 c (lm_ts (fun c => lm_co 1 (Z c).toNat) 1)) (fun c hc m1 n1 ⟨en, h1, h2, h3, h4⟩ => by
    have hlt := lm_co_lt (d := 1) (x := (Z c).toNat)
    obtain ⟨m2, c2, p2, t2, f2, g2, o2⟩ := lm_u74 (sc := sc) (e := d + 6) (m := m1) (n := n1) (x := x) (q := 267) (v := 32) (a := 0) (d := 1) (w := Int32.ofNat (lm_co 1 (Z c).toNat)) rfl (by decide) (by decide) h3 (by omega) (by decide) (by decide) h4 (fun κ hκ => by
      rw [lm_nb (by omega)]
      unfold lm_ts
      rw [show κ = 0 by omega, Nat.add_zero, Nat.div_one, Nat.mod_one])
    refine ⟨m2, n1, ⟨en, fun r r1 r2 => (f2 r r1 r2).trans (h1 r r1 r2), fun i hi => (g2 i hi).trans (h2 i hi), t2, p2⟩, fun R K => lm_e26_425 ?_⟩
    have hv := hV c hc
    have hu := hU c hc
    have z := lm_m3329 ((V c : Int) - U c + 3329)
    have hz : Int32.ofInt (Z c) = Int32.ofNat (Z c).toNat := by
      rw [← hZ c hc, lm_oN, Int.toNat_of_nonneg z.1]
    have hzl : (Z c).toNat < 3329 := by
      rw [← hZ c hc]
      omega
    unfold lm_q26_425
    rw [lm_K256, lm_K10, lm_K11]
    refine lm_geF (by omega) (by omega) (by omega) ?_
    repeat (first
    | ((with_reducible apply lm_sI); exact rfl)
    | ((with_reducible apply lm_sR); exact rfl)
    | ((with_reducible apply lm_sS); exact rfl; exact rfl)
    | ((with_reducible apply lm_sL); exact rfl)
    | ((with_reducible apply lm_sP); exact rfl; exact rfl)
    | ((with_reducible apply lm_sPL); exact rfl; exact rfl)
    | ((with_reducible apply lm_sAA); exact rfl; exact rfl)
    | ((with_reducible apply lm_sA); (first | exact rfl | assumption); omega)
    | ((with_reducible apply lm_sJ); (first | exact rfl | assumption); omega)
    | ((with_reducible apply lm_sB); (first | exact rfl | assumption); omega)
    | ((with_reducible apply lm_wA); (first | exact rfl | assumption); omega)
    | ((with_reducible apply lm_wJ); (first | exact rfl | assumption); omega)
    | ((with_reducible apply lm_wB); (first | exact rfl | assumption); omega)
    | ((with_reducible apply lm_sAl); (first | exact rfl | assumption); omega)
    | ((with_reducible apply lm_iW); decide))
    rw [h1 244 (by decide) (by decide), h1 243 (by decide) (by decide), hv.1, hu.1, lm_oN (V c), lm_iS, lm_iA, lm_iR (by omega) (by omega) (by decide) (by decide), Int.tmod_eq_emod_of_nonneg (by omega), hZ c hc, hz, lm_K1]
    refine lm_cI (lm_u84 (e := d + 6) (d := 1) (by decide) hzl) ?_
    rw [lm_K0]
    repeat (first
    | ((with_reducible apply lm_sI); exact rfl)
    | ((with_reducible apply lm_sR); exact rfl)
    | ((with_reducible apply lm_sS); exact rfl; exact rfl)
    | ((with_reducible apply lm_sL); exact rfl)
    | ((with_reducible apply lm_sP); exact rfl; exact rfl)
    | ((with_reducible apply lm_sPL); exact rfl; exact rfl)
    | ((with_reducible apply lm_sAA); exact rfl; exact rfl)
    | ((with_reducible apply lm_sA); (first | exact rfl | assumption); omega)
    | ((with_reducible apply lm_sJ); (first | exact rfl | assumption); omega)
    | ((with_reducible apply lm_sB); (first | exact rfl | assumption); omega)
    | ((with_reducible apply lm_wA); (first | exact rfl | assumption); omega)
    | ((with_reducible apply lm_wJ); (first | exact rfl | assumption); omega)
    | ((with_reducible apply lm_wB); (first | exact rfl | assumption); omega)
    | ((with_reducible apply lm_sAl); (first | exact rfl | assumption); omega)
    | ((with_reducible apply lm_iW); decide))
    refine lm_cV c2 ?_
    rw [lm_oo]
    exact K) 256 0 (by omega) m n ⟨rfl, fun _ _ _ => rfl, fun _ _ => rfl, hT, ⟨fun t ht => absurd ht (by omega), fun t _ _ h => absurd rfl h⟩⟩
  subst en
  refine ⟨m', h1, h2, fun j hj => ?_, k1⟩
  have := lm_PB_yb h4 (j := j) (by omega)
  rw [Nat.zero_add] at this
  exact this
end LMRE
