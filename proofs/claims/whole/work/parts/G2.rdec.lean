/-! ===== kemOpen of the reference: decrypt ===== -/
theorem lm_bt_sh {K : Nat → Int32} {a b d : Nat} : ln_bv (ln_bt (fun t => K (0 + t))) (8 * a + b) d = ln_bv (ln_bt (fun t => K (a + t))) b d := by
  refine lm_bv_ext fun u hu => ?_
  unfold ln_bt
  dsimp only
  rw [show (8 * a + b + u) / 8 = a + (b + u) / 8 by omega, show (8 * a + b + u) % 8 = (b + u) % 8 by omega, Nat.zero_add]
theorem lm_ap_cm {S F H : Nat → Int} {j : Nat} : lm_ap S F H j = lm_ap S H F j := by
  unfold lm_ap
  rw [Int.mul_comm (F j) (H j), Int.mul_comm (F (j + 1)) (H (j + 1)), Int.mul_comm (F (j - 1)) (H j), Int.mul_comm (F j) (H (j - 1)), Int.add_comm (H j * F (j - 1))]
theorem lm_apc_cm {S : Nat → Int} {F H : Nat → Nat → Int} : ∀ k, lm_apc S F H k = lm_apc S H F k := by
  intro k
  induction k with
  | zero => rfl
  | succ k ih =>
    show lm_ap (lm_apc S F H k) (F k) (H k) = lm_ap (lm_apc S H F k) (H k) (F k)
    rw [ih]
    funext j
    exact lm_ap_cm
section LMRD
variable {sc : lm_H} {C : lm_CX} {d k e du dv : Nat} {m m0 : lm_MI} {n n0 : lm_ML} {x : lm_H × Nat × Nat} {x2 x3 : Int32}
theorem lm_l80 {p q s r a b l : Nat} (hp : lm_ar p = some (1, s)) (hq : lm_ar q = some (1, r)) (ha : a + l ≤ s) (hb : b + l ≤ r) : ∀ k t (z : Bool), t + k = l → lm_rn sc d lm_m80.2.2.2.2.1 (lm_reg lm_m80.2.2.2.2.2) (6, [(0, .ref p), (1, .int (Int32.ofNat a)), (2, .ref q), (3, .int (Int32.ofNat b)), (4, .int (Int32.ofNat l)), (5, .int (lm_z z)), (6, .int (Int32.ofNat t))], []) (lm_w m n x) = some (.ok (some (.int (lm_z (z && lm_ev (fun t => lm_b8 (m p (a + t))) (fun t => lm_b8 (m q (b + t))) k t)))), lm_w m n x) := by
  have h1 := lm_ar_le hp
  have h2 := lm_ar_le hq
  intro k
  induction k with
  | zero =>
    intro t z ht
    have ht : t = l := ht
    subst ht
    refine lm_e80_6 ?_
    unfold lm_q80_6
    refine lm_geT (by omega) (by omega) (by omega) ?_
    rw [show (z && lm_ev _ _ 0 t) = z from Bool.and_true z]
    exact lm_iW (by cases z <;> decide) rfl
  | succ k ih =>
    intro t z ht
    refine lm_e80_6 ?_
    unfold lm_q80_6
    refine lm_geF (by omega) (by omega) (by omega) ?_
    simp only [lm_oo]
    refine lm_sB hp (by omega) ?_
    refine lm_sB hq (by omega) ?_
    unfold lm_ev
    by_cases e : lm_b8 (m p (a + t)) = lm_b8 (m q (b + t))
    · refine lm_iT e ?_
      refine lm_e80_31 ?_
      unfold lm_q80_31
      rw [decide_eq_true e, cond_true, lm_K1, lm_oo]
      exact ih (t + 1) z (by omega)
    · refine lm_iF e ?_
      refine lm_e80_31 ?_
      unfold lm_q80_31
      rw [decide_eq_false e, cond_false, lm_K1, lm_oo, Bool.and_false]
      exact ih (t + 1) false (by omega)
theorem lm_u80 {p q s r a b l : Nat} (hp : lm_ar p = some (1, s)) (hq : lm_ar q = some (1, r)) (ha : a + l ≤ s) (hb : b + l ≤ r) : lm_cal sc (d + 1) 80 [.ref p, .int (Int32.ofNat a), .ref q, .int (Int32.ofNat b), .int (Int32.ofNat l)] (lm_w m n x) = some (.ok (some (.int (lm_z (lm_ev (fun t => lm_b8 (m p (a + t))) (fun t => lm_b8 (m q (b + t))) l 0)))), lm_w m n x) := by
  refine lm_cal_of (Y := lm_m80) rfl rfl (lm_e80_0 ?_)
  unfold lm_q80_0
  rw [lm_K0]
  exact lm_l80 hp hq ha hb l 0 true (by omega)
/-- one polynomial of the packet -/
theorem lm_l26u {j : Nat} (h34 : m 203 34 = Int32.ofNat du) (hdu1 : 1 ≤ du) (hdu : du ≤ 11) (hj : j ≤ 4) (hT : m 203 24 = Int32.ofNat (256 * du * j)) : ∃ m', (∀ r, r ≠ 203 → r ≠ 244 → m' r = m r) ∧ (∀ i, i ≠ 24 → m' 203 i = m 203 i) ∧ (∀ c, c < 256 → m' 244 c = Int32.ofNat (lm_dV (m 211) (32 * du * j) du c)) ∧ ∀ R, lm_rn sc (d + 7) lm_m26.2.2.2.2.1 (lm_reg lm_m26.2.2.2.2.2) (198, [(0, .ref 203), (2, .int x2), (3, .int x3), (5, .int (Int32.ofNat j)), (6, .int (Int32.ofNat 256))], []) (lm_w m' n x) = some R → lm_rn sc (d + 7) lm_m26.2.2.2.2.1 (lm_reg lm_m26.2.2.2.2.2) (198, [(0, .ref 203), (2, .int x2), (3, .int x3), (5, .int (Int32.ofNat j)), (6, .int (Int32.ofNat 0))], []) (lm_w m n x) = some R := by
  have hD : 256 * du * j ≤ 256 * 11 * 4 := Nat.mul_le_mul (Nat.mul_le_mul_left _ hdu) hj
  have hp := lm_p12 hdu
  obtain ⟨m', n', ⟨en, h1, h2, h3, h4⟩, k1⟩ := lm_lp (sc := sc) (d := d + 7) (b := 256) (hs := lm_m26.2.2.2.2.1) (code := lm_reg lm_m26.2.2.2.2.2) (x := x) (fr := fun c => (198, [(0, .ref 203), (2, .int x2), (3, .int x3), (5, .int (Int32.ofNat j)), (6, .int (Int32.ofNat c))], [])) (I := fun c m' n' => n' = n ∧ (∀ r, r ≠ 203 → r ≠ 244 → m' r = m r) ∧ (∀ i, i ≠ 24 → m' 203 i = m 203 i) ∧ m' 203 24 = Int32.ofNat (256 * du * j + du * c) ∧ ∀ c', c' < c → m' 244 c' = Int32.ofNat (lm_dV (m 211) (32 * du * j) du c')) (fun c hc m1 n1 ⟨en, h1, h2, h3, h4⟩ => by
    have hT2 : du * c + du ≤ 11 * 256 := by
      rw [← Nat.mul_succ]
      exact Nat.mul_le_mul hdu hc
    have c2 := lm_u77 (sc := sc) (e := d + 5) (m := m1) (n := n1) (x := x) (q := 211) (v := 65536) (a := 0) (d := du) (T := 256 * du * j + du * c) rfl (by decide) h3 (by omega) (by decide) (by omega)
    have eV : ln_bv (ln_bt (fun t => m1 211 (0 + t))) (256 * du * j + du * c) du = ln_bv (ln_bt (fun t => m 211 (32 * du * j + t))) (c * du) du := by
      rw [h1 211 (by decide) (by decide), show 256 * du * j + du * c = 8 * (32 * du * j) + c * du by rw [← Nat.mul_assoc, ← Nat.mul_assoc, Nat.mul_comm du c], lm_bt_sh]
    rw [eV] at c2
    have hlt := lm_bv_lt (s := ln_bt (fun t => m 211 (32 * du * j + t))) (a := c * du) (d := du)
    generalize eM : lm_u m1 203 24 (Int32.ofNat (256 * du * j + du * c + du)) = M at c2
    have rM : ∀ r, r ≠ 203 → M r = m1 r := fun r hr => by rw [← eM, lm_u_row hr]
    have fM : ∀ i, i ≠ 24 → M 203 i = m1 203 i := fun i hi => by rw [← eM, lm_u_ne (fun g => hi g.2)]
    have e34 : m1 203 34 = Int32.ofNat du := by rw [h2 34 (by decide)]; exact h34
    have e34' : M 203 34 = Int32.ofNat du := by rw [fM 34 (by decide)]; exact e34
    refine ⟨lm_u M 244 c (Int32.ofNat (lm_dV (m 211) (32 * du * j) du c)), n1, ⟨en, fun r r1 r2 => by rw [lm_u_row r2, rM r r1, h1 r r1 r2], fun i hi => by rw [lm_u_row (by decide), fM i hi, h2 i hi], by rw [lm_u_row (by decide), ← eM, lm_u_eq, Nat.mul_succ, Nat.add_assoc], fun c' hc' => ?_⟩, fun R K => lm_e26_198 ?_⟩
    · by_cases c0 : c' = c
      · subst c0; rw [lm_u_eq]
      · rw [lm_u_ne (by omega), rM 244 (by decide)]; exact h4 c' (by omega)
    · unfold lm_q26_198
      rw [lm_K256, lm_K11, lm_K5, lm_K0, lm_K1]
      refine lm_geF (by omega) (by omega) (by omega) ?_
      repeat (first
    | ((with_reducible apply lm_sI); exact rfl)
    | ((with_reducible apply lm_sR); exact rfl)
    | ((with_reducible apply lm_sS); exact rfl; exact rfl)
    | ((with_reducible apply lm_sL); exact rfl)
    | ((with_reducible apply lm_sP); exact rfl; exact rfl)
    | ((with_reducible apply lm_sPL); exact rfl; exact rfl)
    | ((with_reducible apply lm_sAA); exact rfl; exact rfl)
    | ((with_reducible apply lm_sA); (first | exact rfl | assumption); omega)
    | ((with_reducible apply lm_sJ); (first | exact rfl | assumption); omega)
    | ((with_reducible apply lm_sB); (first | exact rfl | assumption); omega)
    | ((with_reducible apply lm_wA); (first | exact rfl | assumption); omega)
    | ((with_reducible apply lm_wJ); (first | exact rfl | assumption); omega)
    | ((with_reducible apply lm_wB); (first | exact rfl | assumption); omega)
    | ((with_reducible apply lm_sAl); (first | exact rfl | assumption); omega)
    | ((with_reducible apply lm_iW); decide))
      simp only [Nat.reduceDiv, Nat.reduceMod]
      rw [e34]
      refine lm_cI c2 ?_
      repeat (first
    | ((with_reducible apply lm_sI); exact rfl)
    | ((with_reducible apply lm_sR); exact rfl)
    | ((with_reducible apply lm_sS); exact rfl; exact rfl)
    | ((with_reducible apply lm_sL); exact rfl)
    | ((with_reducible apply lm_sP); exact rfl; exact rfl)
    | ((with_reducible apply lm_sPL); exact rfl; exact rfl)
    | ((with_reducible apply lm_sAA); exact rfl; exact rfl)
    | ((with_reducible apply lm_sA); (first | exact rfl | assumption); omega)
    | ((with_reducible apply lm_sJ); (first | exact rfl | assumption); omega)
    | ((with_reducible apply lm_sB); (first | exact rfl | assumption); omega)
    | ((with_reducible apply lm_wA); (first | exact rfl | assumption); omega)
    | ((with_reducible apply lm_wJ); (first | exact rfl | assumption); omega)
    | ((with_reducible apply lm_wB); (first | exact rfl | assumption); omega)
    | ((with_reducible apply lm_sAl); (first | exact rfl | assumption); omega)
    | ((with_reducible apply lm_iW); decide))
      simp only [Nat.reduceDiv, Nat.reduceMod]
      rw [e34']
      refine lm_cI (lm_u82 (e := d + 6) hdu (by omega)) ?_
      repeat (first
    | ((with_reducible apply lm_sI); exact rfl)
    | ((with_reducible apply lm_sR); exact rfl)
    | ((with_reducible apply lm_sS); exact rfl; exact rfl)
    | ((with_reducible apply lm_sL); exact rfl)
    | ((with_reducible apply lm_sP); exact rfl; exact rfl)
    | ((with_reducible apply lm_sPL); exact rfl; exact rfl)
    | ((with_reducible apply lm_sAA); exact rfl; exact rfl)
    | ((with_reducible apply lm_sA); (first | exact rfl | assumption); omega)
    | ((with_reducible apply lm_sJ); (first | exact rfl | assumption); omega)
    | ((with_reducible apply lm_sB); (first | exact rfl | assumption); omega)
    | ((with_reducible apply lm_wA); (first | exact rfl | assumption); omega)
    | ((with_reducible apply lm_wJ); (first | exact rfl | assumption); omega)
    | ((with_reducible apply lm_wB); (first | exact rfl | assumption); omega)
    | ((with_reducible apply lm_sAl); (first | exact rfl | assumption); omega)
    | ((with_reducible apply lm_iW); decide))
      rw [lm_oo]
      exact K) 256 0 (by omega) m n ⟨rfl, fun _ _ _ => rfl, fun _ _ => rfl, hT, fun c' hc' => absurd hc' (by omega)⟩
  subst en
  exact ⟨m', h1, h2, h4, k1⟩
/-- one polynomial of the key -/
theorem lm_l26t {j : Nat} (hj : j ≤ 4) (hT : m 203 24 = Int32.ofNat (3072 * j)) : ∃ m', (∀ r, r ≠ 203 → r ≠ 245 → m' r = m r) ∧ (∀ i, i ≠ 24 → m' 203 i = m 203 i) ∧ (∀ c, c < 256 → m' 245 c = Int32.ofInt (lm_T12 (m 208) 0 j c % 3329)) ∧ ∀ R, lm_rn sc (d + 7) lm_m26.2.2.2.2.1 (lm_reg lm_m26.2.2.2.2.2) (268, [(0, .ref 203), (2, .int x2), (3, .int x3), (5, .int (Int32.ofNat j)), (6, .int (Int32.ofNat 256))], []) (lm_w m' n x) = some R → lm_rn sc (d + 7) lm_m26.2.2.2.2.1 (lm_reg lm_m26.2.2.2.2.2) (268, [(0, .ref 203), (2, .int x2), (3, .int x3), (5, .int (Int32.ofNat j)), (6, .int (Int32.ofNat 0))], []) (lm_w m n x) = some R := by
  obtain ⟨m', n', ⟨en, h1, h2, h3, h4⟩, k1⟩ := lm_lp (sc := sc) (d := d + 7) (b := 256) (hs := lm_m26.2.2.2.2.1) (code := lm_reg lm_m26.2.2.2.2.2) (x := x) (fr := fun c => (268, [(0, .ref 203), (2, .int x2), (3, .int x3), (5, .int (Int32.ofNat j)), (6, .int (Int32.ofNat c))], [])) (I := fun c m' n' => n' = n ∧ (∀ r, r ≠ 203 → r ≠ 245 → m' r = m r) ∧ (∀ i, i ≠ 24 → m' 203 i = m 203 i) ∧ m' 203 24 = Int32.ofNat (3072 * j + 12 * c) ∧ ∀ c', c' < c → m' 245 c' = Int32.ofInt (lm_T12 (m 208) 0 j c' % 3329)) (fun c hc m1 n1 ⟨en, h1, h2, h3, h4⟩ => by
    have c2 := lm_u77 (sc := sc) (e := d + 5) (m := m1) (n := n1) (x := x) (q := 208) (v := 65536) (a := 0) (d := 12) (T := 3072 * j + 12 * c) rfl (by decide) h3 (by omega) (by decide) (by decide)
    rw [h1 208 (by decide) (by decide), lm_T12_sh] at c2
    have hlt := lm_bv_lt (s := ln_bt (fun t => m 208 (0 + 384 * j + t))) (a := c * 12) (d := 12)
    have eT : lm_T12 (m 208) 0 j c = (ln_bv (ln_bt (fun t => m 208 (0 + 384 * j + t))) (c * 12) 12 : Nat) := rfl
    generalize eM : lm_u m1 203 24 (Int32.ofNat (3072 * j + 12 * c + 12)) = M at c2
    have rM : ∀ r, r ≠ 203 → M r = m1 r := fun r hr => by rw [← eM, lm_u_row hr]
    have fM : ∀ i, i ≠ 24 → M 203 i = m1 203 i := fun i hi => by rw [← eM, lm_u_ne (fun g => hi g.2)]
    refine ⟨lm_u M 245 c (Int32.ofInt (lm_T12 (m 208) 0 j c % 3329)), n1, ⟨en, fun r r1 r2 => by rw [lm_u_row r2, rM r r1, h1 r r1 r2], fun i hi => by rw [lm_u_row (by decide), fM i hi, h2 i hi], by rw [lm_u_row (by decide), ← eM, lm_u_eq, Nat.mul_succ, Nat.add_assoc], fun c' hc' => ?_⟩, fun R K => lm_e26_268 ?_⟩
    · by_cases c0 : c' = c
      · subst c0; rw [lm_u_eq]
      · rw [lm_u_ne (by omega), rM 245 (by decide)]; exact h4 c' (by omega)
    · unfold lm_q26_268
      rw [lm_K256, lm_K12, lm_K2, lm_K0, lm_K1]
      refine lm_geF (by omega) (by omega) (by omega) ?_
      repeat (first
    | ((with_reducible apply lm_sI); exact rfl)
    | ((with_reducible apply lm_sR); exact rfl)
    | ((with_reducible apply lm_sS); exact rfl; exact rfl)
    | ((with_reducible apply lm_sL); exact rfl)
    | ((with_reducible apply lm_sP); exact rfl; exact rfl)
    | ((with_reducible apply lm_sPL); exact rfl; exact rfl)
    | ((with_reducible apply lm_sAA); exact rfl; exact rfl)
    | ((with_reducible apply lm_sA); (first | exact rfl | assumption); omega)
    | ((with_reducible apply lm_sJ); (first | exact rfl | assumption); omega)
    | ((with_reducible apply lm_sB); (first | exact rfl | assumption); omega)
    | ((with_reducible apply lm_wA); (first | exact rfl | assumption); omega)
    | ((with_reducible apply lm_wJ); (first | exact rfl | assumption); omega)
    | ((with_reducible apply lm_wB); (first | exact rfl | assumption); omega)
    | ((with_reducible apply lm_sAl); (first | exact rfl | assumption); omega)
    | ((with_reducible apply lm_iW); decide))
      refine lm_cI c2 ?_
      repeat (first
    | ((with_reducible apply lm_sI); exact rfl)
    | ((with_reducible apply lm_sR); exact rfl)
    | ((with_reducible apply lm_sS); exact rfl; exact rfl)
    | ((with_reducible apply lm_sL); exact rfl)
    | ((with_reducible apply lm_sP); exact rfl; exact rfl)
    | ((with_reducible apply lm_sPL); exact rfl; exact rfl)
    | ((with_reducible apply lm_sAA); exact rfl; exact rfl)
    | ((with_reducible apply lm_sA); (first | exact rfl | assumption); omega)
    | ((with_reducible apply lm_sJ); (first | exact rfl | assumption); omega)
    | ((with_reducible apply lm_sB); (first | exact rfl | assumption); omega)
    | ((with_reducible apply lm_wA); (first | exact rfl | assumption); omega)
    | ((with_reducible apply lm_wJ); (first | exact rfl | assumption); omega)
    | ((with_reducible apply lm_wB); (first | exact rfl | assumption); omega)
    | ((with_reducible apply lm_sAl); (first | exact rfl | assumption); omega)
    | ((with_reducible apply lm_iW); decide))
      rw [lm_K3329, lm_orm (by omega) (by omega), lm_oN (_ % 3329), lm_oo, Int.natCast_emod]
      exact K) 256 0 (by omega) m n ⟨rfl, fun _ _ _ => rfl, fun _ _ => rfl, hT, fun c' hc' => absurd hc' (by omega)⟩
  subst en
  exact ⟨m', h1, h2, h4, k1⟩
end LMRD
