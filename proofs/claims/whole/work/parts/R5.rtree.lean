/-! ===== SLH of the reference: a tree's root, a tree's signature ===== -/
section LMUB
variable {sc : lm_H} {d : Nat} {W : lm_WT} {m m' : lm_MI} {n n' : lm_ML} {x : lm_H × Nat × Nat} {V A : Nat → Int32} {u : Int32} {p w b q v a I : Nat}
theorem lm_hty1 : lm_b8 (Int32.ofNat 2) ≠ Int32.ofInt 5 ∧ lm_b8 (Int32.ofNat 2) ≠ Int32.ofInt 6 := by decide
theorem lm_hty3 : lm_b8 (Int32.ofNat 3) ≠ Int32.ofInt 5 ∧ lm_b8 (Int32.ofNat 3) ≠ Int32.ofInt 6 := by decide
def lm_I120r (W : lm_WT) (u : Int32) (A V : Nat → Int32) (m0 : lm_MI) (n0 : lm_ML) (j : Nat) (m : lm_MI) (n : lm_ML) : Prop := lm_RX W m n ∧ (∀ r, r ≠ 203 → r ≠ 227 → r ≠ 333 → r ≠ 351 → m r = m0 r) ∧ lm_fG m0 n0 m n ∧ ∀ t, t < j * lm_sn W.2.1 → lm_b8 (m 351 t) = lm_hre W u A V t
theorem lm_l120 (hs : W.2.1 ≤ 11) {m0 : lm_MI} {n0 : lm_ML} (hD : ∀ j, j < lm_cw W.2.1 → m0 357 j = Int32.ofNat (lm_dgt (lm_sn W.2.1) V j)) (hp : lm_ar p = some (1, w)) (gp : p ≠ 203 ∧ p ≠ 227 ∧ p ≠ 333 ∧ p ≠ 351) (hbw : b + lm_cw W.2.1 * lm_sn W.2.1 ≤ w) (hw : w ≤ 70000) (hA : ∀ t, t < lm_cw W.2.1 * lm_sn W.2.1 → lm_b8 (m0 p (b + t)) = A t) : ∀ j, j < lm_cw W.2.1 → ∀ m n, lm_I120r W u A V m0 n0 j m n → ∃ m' n', lm_I120r W u A V m0 n0 (j + 1) m' n' ∧ ∀ R, lm_rn sc (d + 7) lm_m120.2.2.2.2.1 (lm_reg lm_m120.2.2.2.2.2) (11, [(0, .ref 203), (1, .int u), (2, .ref p), (3, .int (Int32.ofNat b)), (6, .int (Int32.ofNat (j + 1)))], []) (lm_w m' n' x) = some R → lm_rn sc (d + 7) lm_m120.2.2.2.2.1 (lm_reg lm_m120.2.2.2.2.2) (11, [(0, .ref 203), (1, .int u), (2, .ref p), (3, .int (Int32.ofNat b)), (6, .int (Int32.ofNat j))], []) (lm_w m n x) = some R := by
  intro j hj m n ⟨i1, i2, i3, i4⟩
  have hpar := lm_spar _ hs
  have hcw := lm_cwn hs hj
  have hdl := lm_dgt_lt (n := lm_sn W.2.1) (V := V) (j := j)
  have u1 := lm_u75 (sc := sc) (d := d + 6) (m := m) (n := n) (x := x) (q := p) (p := 351) (v := w) (w := 2144) (a := b + j * lm_sn W.2.1) (b := j * lm_sn W.2.1) (l := lm_sn W.2.1) hp rfl gp.2.2.2 (by omega) (by omega) hw (by decide)
  generalize eM1 : lm_fil m 351 (j * lm_sn W.2.1) (j * lm_sn W.2.1 + lm_sn W.2.1) (fun i => lm_b8 (m p (b + j * lm_sn W.2.1 + (i - j * lm_sn W.2.1)))) = M1 at u1
  have r1 : ∀ r, r ≠ 351 → M1 r = m r := fun r hr => by rw [← eM1, lm_fl_row hr]
  have S1 : lm_RX W M1 n := i1.keep (lm_fG.of (r1 203 (by decide))) (r1 221 (by decide)) (r1 358 (by decide)) (r1 359 (by decide)) (r1 333 (by decide))
  obtain ⟨m2, n2, c2, f2, g2, S2, o2, v2⟩ := lm_u190 (sc := sc) (d := d) (x := x) (u := u) (y := Int32.ofNat j) (f := lm_dgt (lm_sn W.2.1) V j) (st := 15 - lm_dgt (lm_sn W.2.1) V j) (p := 351) (w := 2144) (b := j * lm_sn W.2.1) (X := fun i => A (j * lm_sn W.2.1 + i)) hs S1 (by omega) rfl (by unfold lm_okp; decide) (by omega) (by decide) (fun t ht => by
    rw [← eM1, lm_fl_in (by omega), lm_b8b8, Nat.add_sub_cancel_left, i2 p gp.1 gp.2.1 gp.2.2.1 gp.2.2.2, Nat.add_assoc, hA _ (by omega)])
  refine ⟨m2, n2, ⟨S2, fun r q1 q2 q3 q4 => by rw [f2 r q1 q2 q3 q4, r1 r q4, i2 r q1 q2 q3 q4], i3.tr (lm_fG.tr (lm_fG.of (r1 203 (by decide))) g2), fun t ht => ?_⟩, fun R KK => ?_⟩
  · rw [Nat.succ_mul] at ht
    by_cases c : t < j * lm_sn W.2.1
    · rw [o2 t (by omega), ← eM1, lm_fl_out (by omega)]
      exact i4 t c
    · obtain ⟨i, rfl⟩ : ∃ i, t = j * lm_sn W.2.1 + i := ⟨t - j * lm_sn W.2.1, by omega⟩
      have hi : i < lm_sn W.2.1 := by omega
      rw [v2 i hi]
      unfold lm_hre
      rw [(lm_dmn hi).1, (lm_dmn hi).2]
  · have eD : M1 357 j = Int32.ofNat (lm_dgt (lm_sn W.2.1) V j) := by rw [r1 357 (by decide), i2 357 (by decide) (by decide) (by decide) (by decide), hD j hj]
    clear i4 v2 o2 hD hA
    refine lm_e120_11 ?_
    unfold lm_q120_11
    rw [lm_K1, lm_oo, show Int32.ofInt 15 = Int32.ofNat 15 from rfl]
    repeat (first
    | ((with_reducible apply lm_sI); exact rfl)
    | ((with_reducible apply lm_sR); exact rfl)
    | ((with_reducible apply lm_sS); exact rfl; exact rfl)
    | ((with_reducible apply lm_sL); exact rfl)
    | ((with_reducible apply lm_sP); exact rfl; exact rfl)
    | ((with_reducible apply lm_sPL); exact rfl; exact rfl)
    | ((with_reducible apply lm_sAA); exact rfl; exact rfl)
    | ((with_reducible apply lm_sA); (first | exact rfl | assumption); omega)
    | ((with_reducible apply lm_sJ); (first | exact rfl | assumption); omega)
    | ((with_reducible apply lm_sB); (first | exact rfl | assumption); omega)
    | ((with_reducible apply lm_wA); (first | exact rfl | assumption); omega)
    | ((with_reducible apply lm_wJ); (first | exact rfl | assumption); omega)
    | ((with_reducible apply lm_wB); (first | exact rfl | assumption); omega)
    | ((with_reducible apply lm_sAl); (first | exact rfl | assumption); omega)
    | ((with_reducible apply lm_iW); decide))
    simp only [Nat.reduceDiv, Nat.reduceMod]
    rw [i1.2.1.2.2.2.2.2.2.1]
    refine lm_geF (by omega) (by omega) (by omega) ?_
    repeat (first
    | ((with_reducible apply lm_sI); exact rfl)
    | ((with_reducible apply lm_sR); exact rfl)
    | ((with_reducible apply lm_sS); exact rfl; exact rfl)
    | ((with_reducible apply lm_sL); exact rfl)
    | ((with_reducible apply lm_sP); exact rfl; exact rfl)
    | ((with_reducible apply lm_sPL); exact rfl; exact rfl)
    | ((with_reducible apply lm_sAA); exact rfl; exact rfl)
    | ((with_reducible apply lm_sA); (first | exact rfl | assumption); omega)
    | ((with_reducible apply lm_sJ); (first | exact rfl | assumption); omega)
    | ((with_reducible apply lm_sB); (first | exact rfl | assumption); omega)
    | ((with_reducible apply lm_wA); (first | exact rfl | assumption); omega)
    | ((with_reducible apply lm_wJ); (first | exact rfl | assumption); omega)
    | ((with_reducible apply lm_wB); (first | exact rfl | assumption); omega)
    | ((with_reducible apply lm_sAl); (first | exact rfl | assumption); omega)
    | ((with_reducible apply lm_iW); decide))
    simp only [Nat.reduceDiv, Nat.reduceMod]
    rw [i1.2.1.1, lm_om, lm_oo]
    refine lm_cV u1 ?_
    repeat (first
    | ((with_reducible apply lm_sI); exact rfl)
    | ((with_reducible apply lm_sR); exact rfl)
    | ((with_reducible apply lm_sS); exact rfl; exact rfl)
    | ((with_reducible apply lm_sL); exact rfl)
    | ((with_reducible apply lm_sP); exact rfl; exact rfl)
    | ((with_reducible apply lm_sPL); exact rfl; exact rfl)
    | ((with_reducible apply lm_sAA); exact rfl; exact rfl)
    | ((with_reducible apply lm_sA); (first | exact rfl | assumption); omega)
    | ((with_reducible apply lm_sJ); (first | exact rfl | assumption); omega)
    | ((with_reducible apply lm_sB); (first | exact rfl | assumption); omega)
    | ((with_reducible apply lm_wA); (first | exact rfl | assumption); omega)
    | ((with_reducible apply lm_wJ); (first | exact rfl | assumption); omega)
    | ((with_reducible apply lm_wB); (first | exact rfl | assumption); omega)
    | ((with_reducible apply lm_sAl); (first | exact rfl | assumption); omega)
    | ((with_reducible apply lm_iW); decide))
    simp only [Nat.reduceDiv, Nat.reduceMod]
    rw [eD, lm_osu (by omega), S1.2.1.1, lm_om]
    refine lm_cV c2 ?_
    exact KK
theorem lm_u120 (hs : W.2.1 ≤ 11) (h : lm_RX W m n) (hq : lm_ar q = some (1, v)) (gq : q ≠ 357) (hav : a + lm_sn W.2.1 ≤ v) (hv : v ≤ 70000) (hV : ∀ t, t < lm_sn W.2.1 → lm_b8 (m q (a + t)) = V t) (hI : I ≤ 2000000) (hp : lm_ar p = some (1, w)) (gp : p ≠ 203 ∧ p ≠ 227 ∧ p ≠ 333 ∧ p < 351) (hbw : b + (lm_cw W.2.1 + lm_sh W.2.1) * lm_sn W.2.1 ≤ w) (hw : w ≤ 70000) (hA : ∀ t, t < (lm_cw W.2.1 + lm_sh W.2.1) * lm_sn W.2.1 → lm_b8 (m p (b + t)) = A t) : ∃ m' n', lm_cal sc (d + 8) 120 [.ref 203, .int (Int32.ofNat I), .ref p, .int (Int32.ofNat b), .ref q, .int (Int32.ofNat a)] (lm_w m n x) = some (.ok none, lm_w m' n' x) ∧ lm_RX W m' n' ∧ (∀ r, r ≠ 203 → r ≠ 227 → r ≠ 333 → r ≠ 351 → r ≠ 354 → r ≠ 355 → r ≠ 357 → m' r = m r) ∧ lm_fG m n m' n' ∧ ∀ t, t < lm_sn W.2.1 → lm_b8 (m' 354 t) = lm_hrt W I A V t := by
  have hpar := lm_spar _ hs
  have hcw := lm_cwn hs (j := 0) (by unfold lm_cw; omega)
  rw [Nat.add_mul] at hbw hA
  obtain ⟨m0, c0, f0, v0⟩ := lm_u189 (sc := sc) (d := d + 6) (m := m) (n := n) (x := x) (V := V) hpar.1 h.2.1.1 hq gq hav hv hV
  have S0 : lm_RX W m0 n := h.keep (lm_fG.of (f0 203 (by decide))) (f0 221 (by decide)) (f0 358 (by decide)) (f0 359 (by decide)) (f0 333 (by decide))
  obtain ⟨m1, n1, ⟨i1, i2, i3, i4⟩, k1⟩ := lm_lp (fr := fun j => (11, [(0, .ref 203), (1, .int (Int32.ofNat I)), (2, .ref p), (3, .int (Int32.ofNat b)), (6, .int (Int32.ofNat j))], [])) (lm_l120 (sc := sc) (A := A) (V := V) (u := Int32.ofNat I) (d := d) (x := x) (p := p) (b := b) (m0 := m0) (n0 := n) hs v0 hp ⟨gp.1, gp.2.1, gp.2.2.1, by omega⟩ (by omega) hw (fun t ht => by rw [f0 p (by omega)]; exact hA t (by omega))) (lm_cw W.2.1) 0 (Nat.zero_add _) m0 n ⟨S0, fun _ _ _ _ _ => rfl, lm_fG.rf, fun t ht => absurd ht (by rw [Nat.zero_mul]; omega)⟩
  obtain ⟨m2, m3, n3, c2, c3, e2, f3, g3, S3, o3, v3⟩ := lm_rth (sc := sc) (d := d + 1) (e := d + 6) (x := x) (q := 351) (v := 2144) (a := 0) (l := lm_cw W.2.1 * lm_sn W.2.1) (X := lm_hre W (Int32.ofNat I) A V) (p := 354) (w := 64) (b := 0) (ty := Int32.ofNat 1) (u := Int32.ofNat I) (y := Int32.ofNat 0) (z := Int32.ofNat 0) hs i1 lm_s3c.2.1 (fun _ => by decide) rfl (by unfold lm_okq; decide) (by omega) (by decide) (fun t ht => by rw [Nat.zero_add]; exact i4 t ht) rfl (by unfold lm_okp; decide) (by omega) (by decide)
  have ep : m3 p = m p := by rw [f3 p gp.1 gp.2.1 gp.2.2.1 (by omega), i2 p gp.1 gp.2.1 gp.2.2.1 (by omega), f0 p (by omega)]
  obtain ⟨m4, n4, c4, S4, f4, g4, v4⟩ := lm_u188 (sc := sc) (d := d) (x := x) (ty := Int32.ofNat 2) (u := Int32.ofNat 0) (I := I) (lv := lm_sh W.2.1) (p := p) (w := w) (b := b + lm_cw W.2.1 * lm_sn W.2.1) (A := fun t => A (lm_cw W.2.1 * lm_sn W.2.1 + t)) (V := lm_hF W (Int32.ofNat 1) (Int32.ofNat I) (Int32.ofNat 0) (Int32.ofNat 0) (lm_hre W (Int32.ofNat I) A V) (lm_cw W.2.1 * lm_sn W.2.1)) hs S3 (fun t ht => by have g := v3 t ht; rw [Nat.zero_add] at g; exact g) lm_s3c.2.2.1 lm_hty1 hI (by omega) hp ⟨gp.1, gp.2.1, gp.2.2.1, by omega, by omega⟩ (by omega) hw (fun t ht => by rw [ep, Nat.add_assoc]; exact hA _ (by omega))
  refine ⟨m4, n4, ?_, S4, fun r q1 q2 q3 q4 q5 q6 q7 => by rw [f4 r q1 q2 q3 q5 q6, f3 r q1 q2 q3 q5, i2 r q1 q2 q3 q4, f0 r q7], lm_fG.tr (lm_fG.of (f0 203 (by decide))) (i3.tr (g3.tr g4)), v4⟩
  clear i4 v0 hV v3 v4 o3 hA
  refine lm_cal_of (Y := lm_m120) rfl rfl (lm_e120_0 ?_)
  unfold lm_q120_0
  rw [lm_K0]
  repeat (first
    | ((with_reducible apply lm_sI); exact rfl)
    | ((with_reducible apply lm_sR); exact rfl)
    | ((with_reducible apply lm_sS); exact rfl; exact rfl)
    | ((with_reducible apply lm_sL); exact rfl)
    | ((with_reducible apply lm_sP); exact rfl; exact rfl)
    | ((with_reducible apply lm_sPL); exact rfl; exact rfl)
    | ((with_reducible apply lm_sAA); exact rfl; exact rfl)
    | ((with_reducible apply lm_sA); (first | exact rfl | assumption); omega)
    | ((with_reducible apply lm_sJ); (first | exact rfl | assumption); omega)
    | ((with_reducible apply lm_sB); (first | exact rfl | assumption); omega)
    | ((with_reducible apply lm_wA); (first | exact rfl | assumption); omega)
    | ((with_reducible apply lm_wJ); (first | exact rfl | assumption); omega)
    | ((with_reducible apply lm_wB); (first | exact rfl | assumption); omega)
    | ((with_reducible apply lm_sAl); (first | exact rfl | assumption); omega)
    | ((with_reducible apply lm_iW); decide))
  refine lm_cV c0 ?_
  refine k1 _ ?_
  refine lm_e120_11 ?_
  unfold lm_q120_11
  rw [lm_K0, lm_K1, lm_K2]
  repeat (first
    | ((with_reducible apply lm_sI); exact rfl)
    | ((with_reducible apply lm_sR); exact rfl)
    | ((with_reducible apply lm_sS); exact rfl; exact rfl)
    | ((with_reducible apply lm_sL); exact rfl)
    | ((with_reducible apply lm_sP); exact rfl; exact rfl)
    | ((with_reducible apply lm_sPL); exact rfl; exact rfl)
    | ((with_reducible apply lm_sAA); exact rfl; exact rfl)
    | ((with_reducible apply lm_sA); (first | exact rfl | assumption); omega)
    | ((with_reducible apply lm_sJ); (first | exact rfl | assumption); omega)
    | ((with_reducible apply lm_sB); (first | exact rfl | assumption); omega)
    | ((with_reducible apply lm_wA); (first | exact rfl | assumption); omega)
    | ((with_reducible apply lm_wJ); (first | exact rfl | assumption); omega)
    | ((with_reducible apply lm_wB); (first | exact rfl | assumption); omega)
    | ((with_reducible apply lm_sAl); (first | exact rfl | assumption); omega)
    | ((with_reducible apply lm_iW); decide))
  simp only [Nat.reduceDiv, Nat.reduceMod]
  rw [i1.2.1.2.2.2.2.2.2.1]
  refine lm_geT (by omega) (by omega) (Nat.le_refl _) ?_
  repeat (first
    | ((with_reducible apply lm_sI); exact rfl)
    | ((with_reducible apply lm_sR); exact rfl)
    | ((with_reducible apply lm_sS); exact rfl; exact rfl)
    | ((with_reducible apply lm_sL); exact rfl)
    | ((with_reducible apply lm_sP); exact rfl; exact rfl)
    | ((with_reducible apply lm_sPL); exact rfl; exact rfl)
    | ((with_reducible apply lm_sAA); exact rfl; exact rfl)
    | ((with_reducible apply lm_sA); (first | exact rfl | assumption); omega)
    | ((with_reducible apply lm_sJ); (first | exact rfl | assumption); omega)
    | ((with_reducible apply lm_sB); (first | exact rfl | assumption); omega)
    | ((with_reducible apply lm_wA); (first | exact rfl | assumption); omega)
    | ((with_reducible apply lm_wJ); (first | exact rfl | assumption); omega)
    | ((with_reducible apply lm_wB); (first | exact rfl | assumption); omega)
    | ((with_reducible apply lm_sAl); (first | exact rfl | assumption); omega)
    | ((with_reducible apply lm_iW); decide))
  refine lm_cV c2 ?_
  repeat (first
    | ((with_reducible apply lm_sI); exact rfl)
    | ((with_reducible apply lm_sR); exact rfl)
    | ((with_reducible apply lm_sS); exact rfl; exact rfl)
    | ((with_reducible apply lm_sL); exact rfl)
    | ((with_reducible apply lm_sP); exact rfl; exact rfl)
    | ((with_reducible apply lm_sPL); exact rfl; exact rfl)
    | ((with_reducible apply lm_sAA); exact rfl; exact rfl)
    | ((with_reducible apply lm_sA); (first | exact rfl | assumption); omega)
    | ((with_reducible apply lm_sJ); (first | exact rfl | assumption); omega)
    | ((with_reducible apply lm_sB); (first | exact rfl | assumption); omega)
    | ((with_reducible apply lm_wA); (first | exact rfl | assumption); omega)
    | ((with_reducible apply lm_wJ); (first | exact rfl | assumption); omega)
    | ((with_reducible apply lm_wB); (first | exact rfl | assumption); omega)
    | ((with_reducible apply lm_sAl); (first | exact rfl | assumption); omega)
    | ((with_reducible apply lm_iW); decide))
  simp only [Nat.reduceDiv, Nat.reduceMod]
  rw [e2, i1.2.1.2.2.2.2.2.2.1, i1.2.1.1, lm_om]
  refine lm_cV c3 ?_
  repeat (first
    | ((with_reducible apply lm_sI); exact rfl)
    | ((with_reducible apply lm_sR); exact rfl)
    | ((with_reducible apply lm_sS); exact rfl; exact rfl)
    | ((with_reducible apply lm_sL); exact rfl)
    | ((with_reducible apply lm_sP); exact rfl; exact rfl)
    | ((with_reducible apply lm_sPL); exact rfl; exact rfl)
    | ((with_reducible apply lm_sAA); exact rfl; exact rfl)
    | ((with_reducible apply lm_sA); (first | exact rfl | assumption); omega)
    | ((with_reducible apply lm_sJ); (first | exact rfl | assumption); omega)
    | ((with_reducible apply lm_sB); (first | exact rfl | assumption); omega)
    | ((with_reducible apply lm_wA); (first | exact rfl | assumption); omega)
    | ((with_reducible apply lm_wJ); (first | exact rfl | assumption); omega)
    | ((with_reducible apply lm_wB); (first | exact rfl | assumption); omega)
    | ((with_reducible apply lm_sAl); (first | exact rfl | assumption); omega)
    | ((with_reducible apply lm_iW); decide))
  simp only [Nat.reduceDiv, Nat.reduceMod]
  rw [S3.2.1.2.2.2.1, S3.2.1.2.2.2.2.2.2.1, S3.2.1.1, lm_om, lm_oo]
  exact lm_cV c4 rfl
/-! a tree signs -/
def lm_I119 (W : lm_WT) (F : Nat → Int32) (p b : Nat) (m0 : lm_MI) (n0 : lm_ML) (K : Nat) (m : lm_MI) (n : lm_ML) : Prop := lm_RX W m n ∧ (∀ r, r ≠ 203 → r ≠ 227 → (r < 333 ∨ 351 < r) → r ≠ p → m r = m0 r) ∧ lm_fG m0 n0 m n ∧ (∀ i, i < b → m p i = m0 p i) ∧ lm_PQw m p b F K
theorem lm_l119a (hs : W.2.1 ≤ 11) {m0 : lm_MI} {n0 : lm_ML} (hD : ∀ j, j < lm_cw W.2.1 → m0 357 j = Int32.ofNat (lm_dgt (lm_sn W.2.1) V j)) (hp : lm_ar p = some (1, w)) (gp : p ≠ 203 ∧ p ≠ 227 ∧ p ≠ 221 ∧ p < 333) (hbw : b + lm_cw W.2.1 * lm_sn W.2.1 ≤ w) (hw : w ≤ 70000) : ∀ j, j < lm_cw W.2.1 → ∀ m n, lm_I119 W (lm_slb W I V) p b m0 n0 (j * lm_sn W.2.1) m n → ∃ m' n', lm_I119 W (lm_slb W I V) p b m0 n0 ((j + 1) * lm_sn W.2.1) m' n' ∧ ∀ R, lm_rn sc (d + 19) lm_m119.2.2.2.2.1 (lm_reg lm_m119.2.2.2.2.2) (9, [(0, .ref 203), (3, .int (Int32.ofNat I)), (4, .ref p), (5, .int (Int32.ofNat b)), (6, .int (Int32.ofNat (j + 1)))], []) (lm_w m' n' x) = some R → lm_rn sc (d + 19) lm_m119.2.2.2.2.1 (lm_reg lm_m119.2.2.2.2.2) (9, [(0, .ref 203), (3, .int (Int32.ofNat I)), (4, .ref p), (5, .int (Int32.ofNat b)), (6, .int (Int32.ofNat j))], []) (lm_w m n x) = some R := by
  intro j hj m n ⟨i1, i2, i3, i4, i5⟩
  have hpar := lm_spar _ hs
  have hcw := lm_cwn hs hj
  have hdl := lm_dgt_lt (n := lm_sn W.2.1) (V := V) (j := j)
  have gk : lm_okp p := ⟨gp.1, gp.2.1, gp.2.2.1, by omega, by omega, by omega⟩
  obtain ⟨m1, m2, n2, c1, c2, e1, f2, g2, S2, o2, v2⟩ := lm_rps (sc := sc) (d := d + 12) (x := x) (p := p) (w := w) (b := b + j * lm_sn W.2.1) (ty := Int32.ofNat 5) (u := Int32.ofNat I) (y := Int32.ofNat j) (z := Int32.ofNat 0) hs i1 lm_s3c.2.2.2.2.2.1 hp gk (by omega) hw
  obtain ⟨m3, n3, c3, f3, g3, S3, o3, v3⟩ := lm_u190 (sc := sc) (d := d + 12) (x := x) (u := Int32.ofNat I) (y := Int32.ofNat j) (f := 0) (st := lm_dgt (lm_sn W.2.1) V j) (p := p) (w := w) (b := b + j * lm_sn W.2.1) hs S2 (by omega) hp gk (by omega) hw v2
  refine ⟨m3, n3, ⟨S3, fun r q1 q2 q3 q4 => by rw [f3 r q1 q2 (by omega) q4, f2 r q1 q2 (by omega) q4, i2 r q1 q2 q3 q4], i3.tr (g2.tr g3), fun i hi => by rw [o3 i (by omega), o2 i (by omega), i4 i hi], ?_⟩, fun R KK => ?_⟩
  · rw [Nat.succ_mul]
    refine i5.ap (fun i hi => by rw [o3 i hi, o2 i hi]) (fun i hi => ?_)
    rw [v3 i hi, lm_slb_0 (by omega) (by omega)]
    unfold lm_hsg
    rw [(lm_dmn hi).1, (lm_dmn hi).2]
    rfl
  · have eD : m2 357 j = Int32.ofNat (lm_dgt (lm_sn W.2.1) V j) := by rw [f2 357 (by decide) (by decide) (by decide) (by omega), i2 357 (by decide) (by decide) (by decide) (by omega), hD j hj]
    clear i5 v2 v3 o2 o3 i4 hD
    refine lm_e119_9 ?_
    unfold lm_q119_9
    rw [lm_K0, lm_K1, lm_K5, lm_oo]
    repeat (first
    | ((with_reducible apply lm_sI); exact rfl)
    | ((with_reducible apply lm_sR); exact rfl)
    | ((with_reducible apply lm_sS); exact rfl; exact rfl)
    | ((with_reducible apply lm_sL); exact rfl)
    | ((with_reducible apply lm_sP); exact rfl; exact rfl)
    | ((with_reducible apply lm_sPL); exact rfl; exact rfl)
    | ((with_reducible apply lm_sAA); exact rfl; exact rfl)
    | ((with_reducible apply lm_sA); (first | exact rfl | assumption); omega)
    | ((with_reducible apply lm_sJ); (first | exact rfl | assumption); omega)
    | ((with_reducible apply lm_sB); (first | exact rfl | assumption); omega)
    | ((with_reducible apply lm_wA); (first | exact rfl | assumption); omega)
    | ((with_reducible apply lm_wJ); (first | exact rfl | assumption); omega)
    | ((with_reducible apply lm_wB); (first | exact rfl | assumption); omega)
    | ((with_reducible apply lm_sAl); (first | exact rfl | assumption); omega)
    | ((with_reducible apply lm_iW); decide))
    simp only [Nat.reduceDiv, Nat.reduceMod]
    rw [i1.2.1.2.2.2.2.2.2.1]
    refine lm_geF (by omega) (by omega) (by omega) ?_
    repeat (first
    | ((with_reducible apply lm_sI); exact rfl)
    | ((with_reducible apply lm_sR); exact rfl)
    | ((with_reducible apply lm_sS); exact rfl; exact rfl)
    | ((with_reducible apply lm_sL); exact rfl)
    | ((with_reducible apply lm_sP); exact rfl; exact rfl)
    | ((with_reducible apply lm_sPL); exact rfl; exact rfl)
    | ((with_reducible apply lm_sAA); exact rfl; exact rfl)
    | ((with_reducible apply lm_sA); (first | exact rfl | assumption); omega)
    | ((with_reducible apply lm_sJ); (first | exact rfl | assumption); omega)
    | ((with_reducible apply lm_sB); (first | exact rfl | assumption); omega)
    | ((with_reducible apply lm_wA); (first | exact rfl | assumption); omega)
    | ((with_reducible apply lm_wJ); (first | exact rfl | assumption); omega)
    | ((with_reducible apply lm_wB); (first | exact rfl | assumption); omega)
    | ((with_reducible apply lm_sAl); (first | exact rfl | assumption); omega)
    | ((with_reducible apply lm_iW); decide))
    refine lm_cV c1 ?_
    repeat (first
    | ((with_reducible apply lm_sI); exact rfl)
    | ((with_reducible apply lm_sR); exact rfl)
    | ((with_reducible apply lm_sS); exact rfl; exact rfl)
    | ((with_reducible apply lm_sL); exact rfl)
    | ((with_reducible apply lm_sP); exact rfl; exact rfl)
    | ((with_reducible apply lm_sPL); exact rfl; exact rfl)
    | ((with_reducible apply lm_sAA); exact rfl; exact rfl)
    | ((with_reducible apply lm_sA); (first | exact rfl | assumption); omega)
    | ((with_reducible apply lm_sJ); (first | exact rfl | assumption); omega)
    | ((with_reducible apply lm_sB); (first | exact rfl | assumption); omega)
    | ((with_reducible apply lm_wA); (first | exact rfl | assumption); omega)
    | ((with_reducible apply lm_wJ); (first | exact rfl | assumption); omega)
    | ((with_reducible apply lm_wB); (first | exact rfl | assumption); omega)
    | ((with_reducible apply lm_sAl); (first | exact rfl | assumption); omega)
    | ((with_reducible apply lm_iW); decide))
    simp only [Nat.reduceDiv, Nat.reduceMod]
    rw [e1, i1.2.1.1, lm_om, lm_oo]
    refine lm_cV c2 ?_
    repeat (first
    | ((with_reducible apply lm_sI); exact rfl)
    | ((with_reducible apply lm_sR); exact rfl)
    | ((with_reducible apply lm_sS); exact rfl; exact rfl)
    | ((with_reducible apply lm_sL); exact rfl)
    | ((with_reducible apply lm_sP); exact rfl; exact rfl)
    | ((with_reducible apply lm_sPL); exact rfl; exact rfl)
    | ((with_reducible apply lm_sAA); exact rfl; exact rfl)
    | ((with_reducible apply lm_sA); (first | exact rfl | assumption); omega)
    | ((with_reducible apply lm_sJ); (first | exact rfl | assumption); omega)
    | ((with_reducible apply lm_sB); (first | exact rfl | assumption); omega)
    | ((with_reducible apply lm_wA); (first | exact rfl | assumption); omega)
    | ((with_reducible apply lm_wJ); (first | exact rfl | assumption); omega)
    | ((with_reducible apply lm_wB); (first | exact rfl | assumption); omega)
    | ((with_reducible apply lm_sAl); (first | exact rfl | assumption); omega)
    | ((with_reducible apply lm_iW); decide))
    simp only [Nat.reduceDiv, Nat.reduceMod]
    rw [eD, S2.2.1.1, lm_om, lm_oo]
    refine lm_cV c3 ?_
    exact KK
theorem lm_l119b (hs : W.2.1 ≤ 11) {m0 : lm_MI} {n0 : lm_ML} (hp : lm_ar p = some (1, w)) (gp : p ≠ 203 ∧ p ≠ 227 ∧ p ≠ 221 ∧ p < 333) (hbw : b + (lm_cw W.2.1 + lm_sh W.2.1) * lm_sn W.2.1 ≤ w) (hw : w ≤ 70000) (hI : I < 512) : ∀ j, j < lm_sh W.2.1 → ∀ m n, lm_I119 W (lm_slb W I V) p b m0 n0 ((lm_cw W.2.1 + j) * lm_sn W.2.1) m n → ∃ m' n', lm_I119 W (lm_slb W I V) p b m0 n0 ((lm_cw W.2.1 + (j + 1)) * lm_sn W.2.1) m' n' ∧ ∀ R, lm_rn sc (d + 19) lm_m119.2.2.2.2.1 (lm_reg lm_m119.2.2.2.2.2) (79, [(0, .ref 203), (3, .int (Int32.ofNat I)), (4, .ref p), (5, .int (Int32.ofNat b)), (6, .int (Int32.ofNat (j + 1)))], []) (lm_w m' n' x) = some R → lm_rn sc (d + 19) lm_m119.2.2.2.2.1 (lm_reg lm_m119.2.2.2.2.2) (79, [(0, .ref 203), (3, .int (Int32.ofNat I)), (4, .ref p), (5, .int (Int32.ofNat b)), (6, .int (Int32.ofNat j))], []) (lm_w m n x) = some R := by
  intro j hj m n ⟨i1, i2, i3, i4, i5⟩
  have hpar := lm_spar _ hs
  have hx := lm_xor1_b (a := I) (z := j) (by omega) (by omega)
  have hd : I / 2 ^ j < 1048576 := Nat.lt_of_le_of_lt (Nat.div_le_self _ _) (by omega)
  have hjn : (lm_cw W.2.1 + j) * lm_sn W.2.1 + lm_sn W.2.1 ≤ (lm_cw W.2.1 + lm_sh W.2.1) * lm_sn W.2.1 := by rw [← Nat.succ_mul]; exact Nat.mul_le_mul_right _ (by omega)
  have gk : lm_okp p := ⟨gp.1, gp.2.1, gp.2.2.1, by omega, by omega, by omega⟩
  obtain ⟨m1, n1, c1, f1, g1, S1, o1, v1⟩ := lm_u109 (sc := sc) (d := d + 10 - j) (x := x) hs j (I / 2 ^ j ^^^ 1) p w (b + (lm_cw W.2.1 + j) * lm_sn W.2.1) m n (by omega) hx.2 i1 hp gk (by omega) (by omega) (by omega) hw
  rw [show d + 10 - j + 9 + j = d + 19 by omega] at c1
  have ek : (lm_cw W.2.1 + (j + 1)) * lm_sn W.2.1 = (lm_cw W.2.1 + j) * lm_sn W.2.1 + lm_sn W.2.1 := by rw [← Nat.succ_mul]; rfl
  refine ⟨m1, n1, ⟨S1, fun r q1 q2 q3 q4 => by rw [f1 r q1 q2 (by omega) (by omega) (by omega) q4, i2 r q1 q2 q3 q4], i3.tr g1, fun i hi => by rw [o1 i (by omega), i4 i hi], ?_⟩, fun R KK => ?_⟩
  · rw [ek]
    exact i5.ap o1 (fun i hi => by rw [v1 i hi, lm_slb_1 hi])
  · clear v1 o1 i4 i5
    refine lm_e119_79 ?_
    unfold lm_q119_79
    rw [lm_K1, lm_oo, lm_srN (a := I) (b := j) (by omega) (by omega), lm_xor1 hd]
    repeat (first
    | ((with_reducible apply lm_sI); exact rfl)
    | ((with_reducible apply lm_sR); exact rfl)
    | ((with_reducible apply lm_sS); exact rfl; exact rfl)
    | ((with_reducible apply lm_sL); exact rfl)
    | ((with_reducible apply lm_sP); exact rfl; exact rfl)
    | ((with_reducible apply lm_sPL); exact rfl; exact rfl)
    | ((with_reducible apply lm_sAA); exact rfl; exact rfl)
    | ((with_reducible apply lm_sA); (first | exact rfl | assumption); omega)
    | ((with_reducible apply lm_sJ); (first | exact rfl | assumption); omega)
    | ((with_reducible apply lm_sB); (first | exact rfl | assumption); omega)
    | ((with_reducible apply lm_wA); (first | exact rfl | assumption); omega)
    | ((with_reducible apply lm_wJ); (first | exact rfl | assumption); omega)
    | ((with_reducible apply lm_wB); (first | exact rfl | assumption); omega)
    | ((with_reducible apply lm_sAl); (first | exact rfl | assumption); omega)
    | ((with_reducible apply lm_iW); decide))
    simp only [Nat.reduceDiv, Nat.reduceMod]
    rw [i1.2.1.2.2.2.1]
    refine lm_geF (by omega) (by omega) (by omega) ?_
    repeat (first
    | ((with_reducible apply lm_sI); exact rfl)
    | ((with_reducible apply lm_sR); exact rfl)
    | ((with_reducible apply lm_sS); exact rfl; exact rfl)
    | ((with_reducible apply lm_sL); exact rfl)
    | ((with_reducible apply lm_sP); exact rfl; exact rfl)
    | ((with_reducible apply lm_sPL); exact rfl; exact rfl)
    | ((with_reducible apply lm_sAA); exact rfl; exact rfl)
    | ((with_reducible apply lm_sA); (first | exact rfl | assumption); omega)
    | ((with_reducible apply lm_sJ); (first | exact rfl | assumption); omega)
    | ((with_reducible apply lm_sB); (first | exact rfl | assumption); omega)
    | ((with_reducible apply lm_wA); (first | exact rfl | assumption); omega)
    | ((with_reducible apply lm_wJ); (first | exact rfl | assumption); omega)
    | ((with_reducible apply lm_wB); (first | exact rfl | assumption); omega)
    | ((with_reducible apply lm_sAl); (first | exact rfl | assumption); omega)
    | ((with_reducible apply lm_iW); decide))
    simp only [Nat.reduceDiv, Nat.reduceMod]
    rw [i1.2.1.2.2.2.2.2.2.1, i1.2.1.1, lm_oo, lm_om, lm_oo]
    refine lm_cV c1 ?_
    exact KK
theorem lm_u119 (hs : W.2.1 ≤ 11) (h : lm_RX W m n) (hq : lm_ar q = some (1, v)) (gq : q ≠ 357) (hav : a + lm_sn W.2.1 ≤ v) (hv : v ≤ 70000) (hV : ∀ t, t < lm_sn W.2.1 → lm_b8 (m q (a + t)) = V t) (hI : I < 512) (hp : lm_ar p = some (1, w)) (gp : p ≠ 203 ∧ p ≠ 227 ∧ p ≠ 221 ∧ p < 333) (hbw : b + (lm_cw W.2.1 + lm_sh W.2.1) * lm_sn W.2.1 ≤ w) (hw : w ≤ 70000) : ∃ m' n', lm_cal sc (d + 20) 119 [.ref 203, .ref q, .int (Int32.ofNat a), .int (Int32.ofNat I), .ref p, .int (Int32.ofNat b)] (lm_w m n x) = some (.ok none, lm_w m' n' x) ∧ lm_RX W m' n' ∧ (∀ r, r ≠ 203 → r ≠ 227 → (r < 333 ∨ 351 < r) → r ≠ 357 → r ≠ p → m' r = m r) ∧ lm_fG m n m' n' ∧ (∀ i, i < b → m' p i = m p i) ∧ lm_PQw m' p b (lm_slb W I V) ((lm_cw W.2.1 + lm_sh W.2.1) * lm_sn W.2.1) := by
  have hpar := lm_spar _ hs
  have hcw := lm_cwn hs (j := 0) (by unfold lm_cw; omega)
  have hadd : (lm_cw W.2.1 + lm_sh W.2.1) * lm_sn W.2.1 = lm_cw W.2.1 * lm_sn W.2.1 + lm_sh W.2.1 * lm_sn W.2.1 := Nat.add_mul ..
  obtain ⟨m0, c0, f0, v0⟩ := lm_u189 (sc := sc) (d := d + 18) (m := m) (n := n) (x := x) (V := V) hpar.1 h.2.1.1 hq gq hav hv hV
  have S0 : lm_RX W m0 n := h.keep (lm_fG.of (f0 203 (by decide))) (f0 221 (by decide)) (f0 358 (by decide)) (f0 359 (by decide)) (f0 333 (by decide))
  obtain ⟨m1, n1, I1, k1⟩ := lm_lp (fr := fun j => (9, [(0, .ref 203), (3, .int (Int32.ofNat I)), (4, .ref p), (5, .int (Int32.ofNat b)), (6, .int (Int32.ofNat j))], [])) (lm_l119a (sc := sc) (I := I) (d := d) (x := x) (m0 := m0) (n0 := n) hs v0 hp gp (by omega) hw) (lm_cw W.2.1) 0 (Nat.zero_add _) m0 n ⟨S0, fun _ _ _ _ _ => rfl, lm_fG.rf, fun _ _ => rfl, fun t ht => absurd ht (by rw [Nat.zero_mul]; omega)⟩
  have S1 := I1.1
  obtain ⟨m2, n2, ⟨i1, i2, i3, i4, i5⟩, k2⟩ := lm_lp (fr := fun j => (79, [(0, .ref 203), (3, .int (Int32.ofNat I)), (4, .ref p), (5, .int (Int32.ofNat b)), (6, .int (Int32.ofNat j))], [])) (lm_l119b (sc := sc) (V := V) (d := d) (x := x) (m0 := m0) (n0 := n) hs hp gp hbw hw hI) (lm_sh W.2.1) 0 (Nat.zero_add _) m1 n1 I1
  refine ⟨m2, n2, ?_, i1, fun r q1 q2 q3 q4 q5 => by rw [i2 r q1 q2 q3 q5, f0 r q4], lm_fG.tr (lm_fG.of (f0 203 (by decide))) i3, fun i hi => by rw [i4 i hi, f0 p (by omega)], i5⟩
  clear I1 i4 i5 v0 hV
  refine lm_cal_of (Y := lm_m119) rfl rfl (lm_e119_0 ?_)
  unfold lm_q119_0
  rw [lm_K0]
  repeat (first
    | ((with_reducible apply lm_sI); exact rfl)
    | ((with_reducible apply lm_sR); exact rfl)
    | ((with_reducible apply lm_sS); exact rfl; exact rfl)
    | ((with_reducible apply lm_sL); exact rfl)
    | ((with_reducible apply lm_sP); exact rfl; exact rfl)
    | ((with_reducible apply lm_sPL); exact rfl; exact rfl)
    | ((with_reducible apply lm_sAA); exact rfl; exact rfl)
    | ((with_reducible apply lm_sA); (first | exact rfl | assumption); omega)
    | ((with_reducible apply lm_sJ); (first | exact rfl | assumption); omega)
    | ((with_reducible apply lm_sB); (first | exact rfl | assumption); omega)
    | ((with_reducible apply lm_wA); (first | exact rfl | assumption); omega)
    | ((with_reducible apply lm_wJ); (first | exact rfl | assumption); omega)
    | ((with_reducible apply lm_wB); (first | exact rfl | assumption); omega)
    | ((with_reducible apply lm_sAl); (first | exact rfl | assumption); omega)
    | ((with_reducible apply lm_iW); decide))
  refine lm_cV c0 ?_
  refine k1 _ (lm_e119_9 ?_)
  unfold lm_q119_9
  rw [lm_K0]
  repeat (first
    | ((with_reducible apply lm_sI); exact rfl)
    | ((with_reducible apply lm_sR); exact rfl)
    | ((with_reducible apply lm_sS); exact rfl; exact rfl)
    | ((with_reducible apply lm_sL); exact rfl)
    | ((with_reducible apply lm_sP); exact rfl; exact rfl)
    | ((with_reducible apply lm_sPL); exact rfl; exact rfl)
    | ((with_reducible apply lm_sAA); exact rfl; exact rfl)
    | ((with_reducible apply lm_sA); (first | exact rfl | assumption); omega)
    | ((with_reducible apply lm_sJ); (first | exact rfl | assumption); omega)
    | ((with_reducible apply lm_sB); (first | exact rfl | assumption); omega)
    | ((with_reducible apply lm_wA); (first | exact rfl | assumption); omega)
    | ((with_reducible apply lm_wJ); (first | exact rfl | assumption); omega)
    | ((with_reducible apply lm_wB); (first | exact rfl | assumption); omega)
    | ((with_reducible apply lm_sAl); (first | exact rfl | assumption); omega)
    | ((with_reducible apply lm_iW); decide))
  simp only [Nat.reduceDiv, Nat.reduceMod]
  rw [S1.2.1.2.2.2.2.2.2.1]
  refine lm_geT (by omega) (by omega) (Nat.le_refl _) ?_
  refine k2 _ (lm_e119_79 ?_)
  unfold lm_q119_79
  repeat (first
    | ((with_reducible apply lm_sI); exact rfl)
    | ((with_reducible apply lm_sR); exact rfl)
    | ((with_reducible apply lm_sS); exact rfl; exact rfl)
    | ((with_reducible apply lm_sL); exact rfl)
    | ((with_reducible apply lm_sP); exact rfl; exact rfl)
    | ((with_reducible apply lm_sPL); exact rfl; exact rfl)
    | ((with_reducible apply lm_sAA); exact rfl; exact rfl)
    | ((with_reducible apply lm_sA); (first | exact rfl | assumption); omega)
    | ((with_reducible apply lm_sJ); (first | exact rfl | assumption); omega)
    | ((with_reducible apply lm_sB); (first | exact rfl | assumption); omega)
    | ((with_reducible apply lm_wA); (first | exact rfl | assumption); omega)
    | ((with_reducible apply lm_wJ); (first | exact rfl | assumption); omega)
    | ((with_reducible apply lm_wB); (first | exact rfl | assumption); omega)
    | ((with_reducible apply lm_sAl); (first | exact rfl | assumption); omega)
    | ((with_reducible apply lm_iW); decide))
  simp only [Nat.reduceDiv, Nat.reduceMod]
  rw [i1.2.1.2.2.2.1]
  exact lm_geT (by omega) (by omega) (Nat.le_refl _) rfl
end LMUB
