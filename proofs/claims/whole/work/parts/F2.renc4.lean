/-! ===== encrypt of the reference: V, the whole ===== -/
section LMRV
variable {sc : lm_H} {C : lm_CX} {d k e du dv q v a t w : Nat} {m m0 : lm_MI} {n n0 : lm_ML} {x : lm_H × Nat × Nat} {P : Nat → Int32} {T : Nat → Nat → Int} {b : Nat → Nat} {A : Nat → Nat → Nat → Int}
theorem lm_l78g {G N : Nat → Int} (hk : k ≤ 4) (h35 : m 203 35 = Int32.ofNat dv) (hdv1 : 1 ≤ dv) (hdv : dv ≤ 11) (hdu : du ≤ 11) (ht : lm_ar t = some (1, w)) (hw : 32 ≤ w) (hw2 : w ≤ 70000) (ht2 : t ≠ 203 ∧ t ≠ 266) (hG : ∀ c, c < 256 → m 243 c = Int32.ofInt (G c % 3329)) (hN : ∀ c, c < 256 → m 245 c = Int32.ofInt (N c % 3329)) (hZ : ∀ c, c < 256 → (G c % 3329 + N c % 3329 + (lm_ex 1 (lm_bx (m t) c) : Nat)) % 3329 = lm_eZ C P (2 * k) (lm_eW C P e k T) (lm_bx (m t)) c) (hT : m 203 24 = Int32.ofNat (256 * du * k)) (hB : lm_PB m 266 0 (256 * du * k) (lm_ctS C P e k du dv A T (lm_bx (m t)))) : ∃ m', (∀ r, r ≠ 203 → r ≠ 266 → m' r = m r) ∧ (∀ j, j ≠ 24 → m' 203 j = m 203 j) ∧ lm_PB m' 266 0 (256 * du * k + dv * 256) (lm_ctS C P e k du dv A T (lm_bx (m t))) ∧ lm_rn sc (d + 6) lm_m78.2.2.2.2.1 (lm_reg lm_m78.2.2.2.2.2) (421, [(0, .ref 203), (3, .ref t), (7, .int (Int32.ofNat 0))], []) (lm_w m n x) = some (.ok (some (.int (lm_z true))), lm_w m' n x) := by
  have hD : 256 * du * k ≤ 256 * 11 * 4 := Nat.mul_le_mul (Nat.mul_le_mul_left _ hdu) hk
  obtain ⟨m', n', ⟨en, h1, h2, h3, h4⟩, k1⟩ := lm_lp (sc := sc) (d := d + 6) (b := 256) (hs := lm_m78.2.2.2.2.1) (code := lm_reg lm_m78.2.2.2.2.2) (x := x) (fr := fun c => (421, [(0, .ref 203), (3, .ref t), (7, .int (Int32.ofNat c))], [])) (I := fun c m' n' => n' = n ∧ (∀ r, r ≠ 203 → r ≠ 266 → m' r = m r) ∧ (∀ j, j ≠ 24 → m' 203 j = m 203 j) ∧ m' 203 24 = Int32.ofNat (256 * du * k + dv * c) ∧ lm_PB m' 266 0 (256 * du * k + dv * c) (lm_ctS C P e k du dv A T (lm_bx (m t)))) (fun c hc m1 n1 ⟨en, h1, h2, h3, h4⟩ => by
    have hp := lm_p12 hdv
    have hlt := lm_co_lt (d := dv) (x := (lm_eZ C P (2 * k) (lm_eW C P e k T) (lm_bx (m t)) c).toNat)
    have hT2 : dv * c ≤ 11 * 256 := Nat.mul_le_mul hdv (by omega)
    obtain ⟨m2, c2, p2, t2, f2, g2, o2⟩ := lm_u74 (sc := sc) (e := d + 5) (m := m1) (n := n1) (x := x) (q := 266) (v := 8192) (a := 0) (d := dv) (w := Int32.ofNat (lm_co dv (lm_eZ C P (2 * k) (lm_eW C P e k T) (lm_bx (m t)) c).toNat)) rfl (by decide) (by decide) h3 (by omega) (by decide) (by omega) h4 (fun κ hκ => by
      rw [lm_nb (by omega), lm_ctS_v hdv1 hc hκ]
      unfold lm_eV
      rw [Int.toNat_natCast])
    rw [Nat.add_assoc, ← Nat.mul_succ] at p2 t2
    refine ⟨m2, n1, ⟨en, fun r r1 r2 => (f2 r r1 r2).trans (h1 r r1 r2), fun j hj => (g2 j hj).trans (h2 j hj), t2, p2⟩, fun R K => lm_e78_421 ?_⟩
    have g0 := lm_m3329 (G c)
    have n0 := lm_m3329 (N c)
    have hz : Int32.ofInt (lm_eZ C P (2 * k) (lm_eW C P e k T) (lm_bx (m t)) c) = Int32.ofNat (lm_eZ C P (2 * k) (lm_eW C P e k T) (lm_bx (m t)) c).toNat := by
      rw [← hZ c hc, lm_oN, Int.toNat_of_nonneg (lm_m3329 _).1]
    have e35 : m1 203 35 = Int32.ofNat dv := by rw [h2 35 (by decide)]; exact h35
    have hbx : lm_bx (m t) c ≤ 1 := Bool.toNat_le _
    have hex : lm_ex 1 (lm_bx (m t) c) ≤ 1665 := by
      rcases (by omega : lm_bx (m t) c = 0 ∨ lm_bx (m t) c = 1) with e0 | e0
      · rw [e0, lm_ex1.1]; decide
      · rw [e0, lm_ex1.2]; decide
    have cb := lm_u157 (sc := sc) (e := d + 5) (m := m1) (n := n1) (x := x) (q := t) (v := w) (a := 0) (t := c) ht hw2 (by omega) (by omega)
    have eb : (ln_bt (fun j => m1 t (0 + j)) c).toNat = lm_bx (m t) c := by
      unfold lm_bx ln_bt
      dsimp only
      rw [Nat.zero_add, h1 t ht2.1 ht2.2]
    rw [eb] at cb
    unfold lm_q78_421
    rw [lm_K256, lm_K10, lm_K0, lm_K12, lm_K1]
    refine lm_geF (by omega) (by omega) (by omega) ?_
    repeat (first
    | ((with_reducible apply lm_sI); exact rfl)
    | ((with_reducible apply lm_sR); exact rfl)
    | ((with_reducible apply lm_sS); exact rfl; exact rfl)
    | ((with_reducible apply lm_sL); exact rfl)
    | ((with_reducible apply lm_sP); exact rfl; exact rfl)
    | ((with_reducible apply lm_sPL); exact rfl; exact rfl)
    | ((with_reducible apply lm_sAA); exact rfl; exact rfl)
    | ((with_reducible apply lm_sA); (first | exact rfl | assumption); omega)
    | ((with_reducible apply lm_sJ); (first | exact rfl | assumption); omega)
    | ((with_reducible apply lm_sB); (first | exact rfl | assumption); omega)
    | ((with_reducible apply lm_wA); (first | exact rfl | assumption); omega)
    | ((with_reducible apply lm_wJ); (first | exact rfl | assumption); omega)
    | ((with_reducible apply lm_wB); (first | exact rfl | assumption); omega)
    | ((with_reducible apply lm_sAl); (first | exact rfl | assumption); omega)
    | ((with_reducible apply lm_iW); decide))
    refine lm_cI cb ?_
    refine lm_cI (lm_u82 (e := d + 5) (d := 1) (by decide) (by omega)) ?_
    repeat (first
    | ((with_reducible apply lm_sI); exact rfl)
    | ((with_reducible apply lm_sR); exact rfl)
    | ((with_reducible apply lm_sS); exact rfl; exact rfl)
    | ((with_reducible apply lm_sL); exact rfl)
    | ((with_reducible apply lm_sP); exact rfl; exact rfl)
    | ((with_reducible apply lm_sPL); exact rfl; exact rfl)
    | ((with_reducible apply lm_sAA); exact rfl; exact rfl)
    | ((with_reducible apply lm_sA); (first | exact rfl | assumption); omega)
    | ((with_reducible apply lm_sJ); (first | exact rfl | assumption); omega)
    | ((with_reducible apply lm_sB); (first | exact rfl | assumption); omega)
    | ((with_reducible apply lm_wA); (first | exact rfl | assumption); omega)
    | ((with_reducible apply lm_wJ); (first | exact rfl | assumption); omega)
    | ((with_reducible apply lm_wB); (first | exact rfl | assumption); omega)
    | ((with_reducible apply lm_sAl); (first | exact rfl | assumption); omega)
    | ((with_reducible apply lm_iW); decide))
    simp only [Nat.reduceDiv, Nat.reduceMod]
    rw [h1 243 (by decide) (by decide), h1 245 (by decide) (by decide), hG c hc, hN c hc, lm_oN (lm_ex 1 _), lm_iA, lm_iA, lm_iR (by omega) (by omega) (by decide) (by decide), Int.tmod_eq_emod_of_nonneg (by omega), hZ c hc, hz, e35]
    refine lm_cI (lm_u84 (e := d + 5) hdv lm_eZ_lt) ?_
    repeat (first
    | ((with_reducible apply lm_sI); exact rfl)
    | ((with_reducible apply lm_sR); exact rfl)
    | ((with_reducible apply lm_sS); exact rfl; exact rfl)
    | ((with_reducible apply lm_sL); exact rfl)
    | ((with_reducible apply lm_sP); exact rfl; exact rfl)
    | ((with_reducible apply lm_sPL); exact rfl; exact rfl)
    | ((with_reducible apply lm_sAA); exact rfl; exact rfl)
    | ((with_reducible apply lm_sA); (first | exact rfl | assumption); omega)
    | ((with_reducible apply lm_sJ); (first | exact rfl | assumption); omega)
    | ((with_reducible apply lm_sB); (first | exact rfl | assumption); omega)
    | ((with_reducible apply lm_wA); (first | exact rfl | assumption); omega)
    | ((with_reducible apply lm_wJ); (first | exact rfl | assumption); omega)
    | ((with_reducible apply lm_wB); (first | exact rfl | assumption); omega)
    | ((with_reducible apply lm_sAl); (first | exact rfl | assumption); omega)
    | ((with_reducible apply lm_iW); decide))
    simp only [Nat.reduceDiv, Nat.reduceMod]
    rw [e35]
    refine lm_cV c2 ?_
    rw [lm_oo]
    exact K) 256 0 (by omega) m n ⟨rfl, fun _ _ _ => rfl, fun _ _ => rfl, hT, hB⟩
  subst en
  refine ⟨m', h1, h2, h4, k1 _ (lm_e78_421 ?_)⟩
  unfold lm_q78_421
  rw [lm_K256]
  refine lm_geT (by omega) (by omega) (by omega) (lm_iW (by decide) ?_)
  rfl
/-- encrypt -/
theorem lm_u78 {f : Nat} (h : lm_RK0 C k e m n) (he : e = 2 ∨ e = 3) (hk : k ≤ 4) (hk1 : 1 ≤ k) (h34 : m 203 34 = Int32.ofNat du) (h35 : m 203 35 = Int32.ofNat dv) (hdu1 : 1 ≤ du) (hdu : du ≤ 11) (hdv1 : 1 ≤ dv) (hdv : dv ≤ 11) (hq : lm_ar q = some (1, v)) (hv : v ≤ 70000) (hav : a + 384 * k + 32 ≤ v) (hav2 : a + 1536 ≤ v) (hq2 : 205 < q ∧ q < 214) (ht : lm_ar t = some (1, w)) (hw : 32 ≤ w) (hw2 : w ≤ 70000) (ht2 : (205 < t ∧ t < 214) ∨ t = 267) (hf : f + 32 ≤ 256) (hP : ∀ i, i < 32 → lm_b8 (m 263 (f + i)) = lm_b8 (P (32 + i))) : (∃ m' n', lm_cal sc (d + 7) 78 [.ref 203, .ref q, .int (Int32.ofNat a), .ref t, .ref 263, .int (Int32.ofNat f)] (lm_w m n x) = some (.ok (some (.int (lm_z true))), lm_w m' n' x) ∧ lm_kAll C (m q) (a + 384 * k) k ∧ (∀ r, r ≠ 203 → r ≠ 227 → (r < 233 ∨ 245 < r) → r ≠ 264 → r ≠ 266 → m' r = m r) ∧ lm_fB m n m' n' ∧ ∀ j, j < 32 * du * k + 32 * dv → lm_yb (m' 266 j) = lm_ct C P e k du dv (fun i j => lm_kAi C (m q) (a + 384 * k) i j) (fun j => lm_T12 (m q) a j) (lm_bx (m t)) j) ∨ ∃ m' n', lm_cal sc (d + 7) 78 [.ref 203, .ref q, .int (Int32.ofNat a), .ref t, .ref 263, .int (Int32.ofNat f)] (lm_w m n x) = some (.ok (some (.int (lm_z false))), lm_w m' n' x) ∧ ¬ lm_kAll C (m q) (a + 384 * k) k ∧ (∀ r, r ≠ 203 → r ≠ 227 → (r < 233 ∨ 245 < r) → r ≠ 264 → r ≠ 266 → m' r = m r) ∧ lm_fB m n m' n' := by
  obtain ⟨m1, n1, ⟨a1, a2, a3⟩, k1⟩ := lm_l78a (sc := sc) (d := d) (q := q) (t := t) (s := 263) (f := f) (z := 256) (at' := Int32.ofNat a) (x := x) (P := P) h he hk rfl (by decide) hf rfl hP
  have h1 := h.keep a2 (a1 221 (by decide) (by decide) (by decide) (by decide)) (a1 231 (by decide) (by decide) (by decide) (by decide))
  generalize eM : lm_u m1 203 24 (Int32.ofNat 0) = M
  have rM : ∀ r, r ≠ 203 → M r = m1 r := fun r hr => by rw [← eM, lm_u_row hr]
  have fM : ∀ j, j ≠ 24 → M 203 j = m1 203 j := fun j hj => by rw [← eM, lm_u_ne (fun g => hj g.2)]
  have BM : lm_fB m1 n1 M n1 := .p fM
  have hM := h1.keepB BM (rM 221 (by decide)) (rM 231 (by decide))
  have frM : ∀ r, r ≠ 203 → r ≠ 227 → (r < 233 ∨ 245 < r) → r ≠ 264 → M r = m r := fun r r1 r2 r3 r4 => by rw [rM r r1, a1 r r1 r2 r4 (by omega)]
  have eqM : M q = m q := frM q (by omega) (by omega) (by omega) (by omega)
  have etM : M t = m t := frM t (by omega) (by omega) (by omega) (by omega)
  have e34 : M 203 34 = Int32.ofNat du := by rw [fM 34 (by decide), a2.1 34 (by decide) (by decide) (by decide)]; exact h34
  have e35 : M 203 35 = Int32.ofNat dv := by rw [fM 35 (by decide), a2.1 35 (by decide) (by decide) (by decide)]; exact h35
  have head : ∀ R, lm_rn sc (d + 6) lm_m78.2.2.2.2.1 (lm_reg lm_m78.2.2.2.2.2) (61, [(0, .ref 203), (1, .ref q), (2, .int (Int32.ofNat a)), (3, .ref t), (4, .ref 263), (5, .int (Int32.ofNat f)), (6, .int (Int32.ofNat (du * (256 * 0)))), (7, .int (Int32.ofNat 0))], []) (lm_w M n1 x) = some R → lm_cal sc (d + 7) 78 [.ref 203, .ref q, .int (Int32.ofNat a), .ref t, .ref 263, .int (Int32.ofNat f)] (lm_w m n x) = some R := by
    intro R K
    refine lm_cal_of (Y := lm_m78) rfl rfl (lm_e78_0 ?_)
    unfold lm_q78_0
    rw [lm_K0]
    refine k1 R (lm_e78_3 ?_)
    unfold lm_q78_3
    repeat (first
    | ((with_reducible apply lm_sI); exact rfl)
    | ((with_reducible apply lm_sR); exact rfl)
    | ((with_reducible apply lm_sS); exact rfl; exact rfl)
    | ((with_reducible apply lm_sL); exact rfl)
    | ((with_reducible apply lm_sP); exact rfl; exact rfl)
    | ((with_reducible apply lm_sPL); exact rfl; exact rfl)
    | ((with_reducible apply lm_sAA); exact rfl; exact rfl)
    | ((with_reducible apply lm_sA); (first | exact rfl | assumption); omega)
    | ((with_reducible apply lm_sJ); (first | exact rfl | assumption); omega)
    | ((with_reducible apply lm_sB); (first | exact rfl | assumption); omega)
    | ((with_reducible apply lm_wA); (first | exact rfl | assumption); omega)
    | ((with_reducible apply lm_wJ); (first | exact rfl | assumption); omega)
    | ((with_reducible apply lm_wB); (first | exact rfl | assumption); omega)
    | ((with_reducible apply lm_sAl); (first | exact rfl | assumption); omega)
    | ((with_reducible apply lm_iW); decide))
    simp only [Nat.reduceDiv, Nat.reduceMod]
    rw [h1.2.1]
    refine lm_geT (by omega) (by omega) (by omega) ?_
    rw [lm_K0]
    repeat (first
    | ((with_reducible apply lm_sI); exact rfl)
    | ((with_reducible apply lm_sR); exact rfl)
    | ((with_reducible apply lm_sS); exact rfl; exact rfl)
    | ((with_reducible apply lm_sL); exact rfl)
    | ((with_reducible apply lm_sP); exact rfl; exact rfl)
    | ((with_reducible apply lm_sPL); exact rfl; exact rfl)
    | ((with_reducible apply lm_sAA); exact rfl; exact rfl)
    | ((with_reducible apply lm_sA); (first | exact rfl | assumption); omega)
    | ((with_reducible apply lm_sJ); (first | exact rfl | assumption); omega)
    | ((with_reducible apply lm_sB); (first | exact rfl | assumption); omega)
    | ((with_reducible apply lm_wA); (first | exact rfl | assumption); omega)
    | ((with_reducible apply lm_wJ); (first | exact rfl | assumption); omega)
    | ((with_reducible apply lm_wB); (first | exact rfl | assumption); omega)
    | ((with_reducible apply lm_sAl); (first | exact rfl | assumption); omega)
    | ((with_reducible apply lm_iW); decide))
    rw [eM]
    exact K
  have hVM : ∀ j, j < k → ∀ c, c < 256 → M (233 + j) c = Int32.ofInt (lm_kS C P 32 e j c) := fun j hj c hc => by rw [rM _ (by omega)]; exact a3 j hj c hc
  rcases lm_l78f (sc := sc) (d := d) (q := q) (v := v) (a := a) (t := t) (f := f) (x := x) (m := M) (n := n1) (P := P) (du := du) (dv := dv) (T := fun j => lm_T12 (m q) a j) (b := lm_bx (m t)) hM hk hk1 e34 hdu1 hdu hq hv hav hq2 hf (fun i hi => by rw [frM 263 (by decide) (by decide) (by decide) (by decide)]; exact hP i hi) hVM with ⟨m2, n2, ⟨b1, b2, b3, b4⟩, k2⟩ | ⟨R, ⟨m2, n2, eR, b1, b2, i', j', hi', hj', hn⟩, k2⟩
  · rw [eqM] at b3 b4
    have h2 := hM.keepB b2 (b1 221 (by decide) (by decide) (by decide) (by decide) (by decide)) (b1 231 (by decide) (by decide) (by decide) (by decide) (by decide))
    obtain ⟨m3, c3, p3⟩ := lm_u81 (sc := sc) (d := d + 5) (m := m2) (n := n2) (x := x) (p := 243) rfl
    have h3 : lm_RK0 C k e m3 n2 := h2.keep (lm_fG.of (p3.1 203 (by decide))) (p3.1 221 (by decide)) (p3.1 231 (by decide))
    have fr3 : ∀ r, r ≠ 203 → r ≠ 227 → (r < 243 ∨ 245 < r) → r ≠ 264 → r ≠ 266 → m3 r = M r := fun r r1 r2 r3 r4 r5 => by rw [p3.1 r (by omega), b1 r r1 r2 r3 r4 r5]
    have eq3 : m3 q = m q := by rw [fr3 q (by omega) (by omega) (by omega) (by omega) (by omega), eqM]
    obtain ⟨m4, d1, d2, d3, k4⟩ := lm_l78e (sc := sc) (d := d) (q := q) (v := v) (a := a) (t := t) (s := 263) (f := f) (x6 := Int32.ofNat (du * (256 * k))) (x := x) (m := m3) (n := n2) (P := P) h3 hk hq hv hav2 (by omega) (fun j hj c hc => by rw [fr3 _ (by omega) (by omega) (by omega) (by omega) (by omega)]; exact hVM j hj c hc) p3.2
    rw [eq3] at d3
    have h4 := h3.keepB (.p d2) (d1 221 (by decide) (by decide) (by decide)) (d1 231 (by decide) (by decide) (by decide))
    obtain ⟨m5, n5, m6, n6, c5, c6, g1, g2, g3, g4, g5⟩ := lm_l78n (sc := sc) (d := d) (x := x) (P := P) (num := 2 * k) (f := f) (m := m4) (n := n2) (p := 0) h4 (fun i hi => by rw [d1 263 (by decide) (by decide) (by decide), fr3 263 (by decide) (by decide) (by decide) (by decide) (by decide), frM 263 (by decide) (by decide) (by decide) (by decide)]; exact hP i hi) hf d3 (lm_apr_rg (fun c _ => by show 0 ≤ (0 : Int) ∧ (0 : Int) ≤ 4095; decide) k)
    have et6 : m6 t = m t := by rw [g1 t (by omega) (by omega) (by omega) (by omega) (by omega), d1 t (by omega) (by omega) (by omega), fr3 t (by omega) (by omega) (by omega) (by omega) (by omega), etM]
    have e266 : m6 266 = m2 266 := by rw [g1 266 (by decide) (by decide) (by decide) (by decide) (by decide), d1 266 (by decide) (by decide) (by decide), p3.1 266 (by decide)]
    have f6 : ∀ j, j ≠ 18 → j ≠ 19 → j ≠ 20 → j ≠ 24 → m6 203 j = M 203 j := fun j j1 j2 j3 j4 => by rw [g2.1 j j1 j2 j3, d2 j j4, p3.1 203 (by decide), b2.1 j j1 j2 j3 j4]
    have eT : lm_u m6 203 24 (Int32.ofNat (du * (256 * k))) t = m t := by rw [lm_u_row (by omega), et6]
    obtain ⟨m7, r1, r2, r3, k7⟩ := lm_l78g (sc := sc) (d := d) (x := x) (n := n6) (m := lm_u m6 203 24 (Int32.ofNat (du * (256 * k)))) (C := C) (P := P) (e := e) (k := k) (du := du) (dv := dv) (t := t) (w := w) (A := fun i j => lm_kAi C (m q) (a + 384 * k) i j) (T := fun j => lm_T12 (m q) a j) (G := lm_un (lm_apr (fun _ => 0) (fun j c => lm_T12 (m q) a j c % 3329) (fun j => lm_kS C P 32 e j) k)) (N := lm_kno C P 32 2 (2 * k)) hk (by rw [lm_u_ne (by decide), f6 35 (by decide) (by decide) (by decide) (by decide)]; exact e35) hdv1 hdv hdu ht hw hw2 (by omega) (fun c hc => by rw [lm_u_row (by decide)]; exact g4 c hc) (fun c hc => by rw [lm_u_row (by decide)]; exact g5 c hc) (fun c hc => by
      rw [eT]
      exact lm_eZ_of (C := C) (P := P) (num := 2 * k) (bb := lm_bx (m t)) (lm_apc_cg (S := fun _ => 0) (S' := fun _ => 0) (F := fun j c => lm_T12 (m q) a j c % 3329) (F' := fun j => lm_T12 (m q) a j) (H := fun j => lm_kS C P 32 e j) (H' := fun j => lm_kS C P 32 e j) (fun _ => ln_cg.rf) (fun _ _ => ln_cg.em) (fun _ _ => ln_cg.rf) k) c) (by rw [lm_u_eq, Nat.mul_comm 256 du, Nat.mul_assoc]) (by
      rw [eT]
      unfold lm_PB
      rw [lm_u_row (by decide), e266, Nat.mul_comm 256 du, Nat.mul_assoc]
      exact b3)
    rw [eT] at r3
    refine Or.inl ⟨m7, n6, head _ (k2 _ (lm_e78_61 ?_)), fun i j hi hj => b4 j i hj hi, fun r q1 q2 q3 q4 q5 => ?_, ?_, fun j hj => ?_⟩
    · have e325 : m5 203 32 = Int32.ofNat k := by rw [g3]; exact h4.2.1
      clear b4
      unfold lm_q78_61
      repeat (first
    | ((with_reducible apply lm_sI); exact rfl)
    | ((with_reducible apply lm_sR); exact rfl)
    | ((with_reducible apply lm_sS); exact rfl; exact rfl)
    | ((with_reducible apply lm_sL); exact rfl)
    | ((with_reducible apply lm_sP); exact rfl; exact rfl)
    | ((with_reducible apply lm_sPL); exact rfl; exact rfl)
    | ((with_reducible apply lm_sAA); exact rfl; exact rfl)
    | ((with_reducible apply lm_sA); (first | exact rfl | assumption); omega)
    | ((with_reducible apply lm_sJ); (first | exact rfl | assumption); omega)
    | ((with_reducible apply lm_sB); (first | exact rfl | assumption); omega)
    | ((with_reducible apply lm_wA); (first | exact rfl | assumption); omega)
    | ((with_reducible apply lm_wJ); (first | exact rfl | assumption); omega)
    | ((with_reducible apply lm_wB); (first | exact rfl | assumption); omega)
    | ((with_reducible apply lm_sAl); (first | exact rfl | assumption); omega)
    | ((with_reducible apply lm_iW); decide))
      simp only [Nat.reduceDiv, Nat.reduceMod]
      rw [h2.2.1]
      refine lm_geT (by omega) (by omega) (by omega) ?_
      rw [lm_K10, lm_K0]
      repeat (first
    | ((with_reducible apply lm_sI); exact rfl)
    | ((with_reducible apply lm_sR); exact rfl)
    | ((with_reducible apply lm_sS); exact rfl; exact rfl)
    | ((with_reducible apply lm_sL); exact rfl)
    | ((with_reducible apply lm_sP); exact rfl; exact rfl)
    | ((with_reducible apply lm_sPL); exact rfl; exact rfl)
    | ((with_reducible apply lm_sAA); exact rfl; exact rfl)
    | ((with_reducible apply lm_sA); (first | exact rfl | assumption); omega)
    | ((with_reducible apply lm_sJ); (first | exact rfl | assumption); omega)
    | ((with_reducible apply lm_sB); (first | exact rfl | assumption); omega)
    | ((with_reducible apply lm_wA); (first | exact rfl | assumption); omega)
    | ((with_reducible apply lm_wJ); (first | exact rfl | assumption); omega)
    | ((with_reducible apply lm_wB); (first | exact rfl | assumption); omega)
    | ((with_reducible apply lm_sAl); (first | exact rfl | assumption); omega)
    | ((with_reducible apply lm_iW); decide))
      refine lm_cV c3 ?_
      refine k4 _ (lm_e78_290 ?_)
      unfold lm_q78_290
      repeat (first
    | ((with_reducible apply lm_sI); exact rfl)
    | ((with_reducible apply lm_sR); exact rfl)
    | ((with_reducible apply lm_sS); exact rfl; exact rfl)
    | ((with_reducible apply lm_sL); exact rfl)
    | ((with_reducible apply lm_sP); exact rfl; exact rfl)
    | ((with_reducible apply lm_sPL); exact rfl; exact rfl)
    | ((with_reducible apply lm_sAA); exact rfl; exact rfl)
    | ((with_reducible apply lm_sA); (first | exact rfl | assumption); omega)
    | ((with_reducible apply lm_sJ); (first | exact rfl | assumption); omega)
    | ((with_reducible apply lm_sB); (first | exact rfl | assumption); omega)
    | ((with_reducible apply lm_wA); (first | exact rfl | assumption); omega)
    | ((with_reducible apply lm_wJ); (first | exact rfl | assumption); omega)
    | ((with_reducible apply lm_wB); (first | exact rfl | assumption); omega)
    | ((with_reducible apply lm_sAl); (first | exact rfl | assumption); omega)
    | ((with_reducible apply lm_iW); decide))
      simp only [Nat.reduceDiv, Nat.reduceMod]
      rw [h4.2.1]
      refine lm_geT (by omega) (by omega) (by omega) ?_
      rw [lm_K10, lm_K12, lm_K2, lm_K0]
      repeat (first
    | ((with_reducible apply lm_sI); exact rfl)
    | ((with_reducible apply lm_sR); exact rfl)
    | ((with_reducible apply lm_sS); exact rfl; exact rfl)
    | ((with_reducible apply lm_sL); exact rfl)
    | ((with_reducible apply lm_sP); exact rfl; exact rfl)
    | ((with_reducible apply lm_sPL); exact rfl; exact rfl)
    | ((with_reducible apply lm_sAA); exact rfl; exact rfl)
    | ((with_reducible apply lm_sA); (first | exact rfl | assumption); omega)
    | ((with_reducible apply lm_sJ); (first | exact rfl | assumption); omega)
    | ((with_reducible apply lm_sB); (first | exact rfl | assumption); omega)
    | ((with_reducible apply lm_wA); (first | exact rfl | assumption); omega)
    | ((with_reducible apply lm_wJ); (first | exact rfl | assumption); omega)
    | ((with_reducible apply lm_wB); (first | exact rfl | assumption); omega)
    | ((with_reducible apply lm_sAl); (first | exact rfl | assumption); omega)
    | ((with_reducible apply lm_iW); decide))
      refine lm_cV c5 ?_
      repeat (first
    | ((with_reducible apply lm_sI); exact rfl)
    | ((with_reducible apply lm_sR); exact rfl)
    | ((with_reducible apply lm_sS); exact rfl; exact rfl)
    | ((with_reducible apply lm_sL); exact rfl)
    | ((with_reducible apply lm_sP); exact rfl; exact rfl)
    | ((with_reducible apply lm_sPL); exact rfl; exact rfl)
    | ((with_reducible apply lm_sAA); exact rfl; exact rfl)
    | ((with_reducible apply lm_sA); (first | exact rfl | assumption); omega)
    | ((with_reducible apply lm_sJ); (first | exact rfl | assumption); omega)
    | ((with_reducible apply lm_sB); (first | exact rfl | assumption); omega)
    | ((with_reducible apply lm_wA); (first | exact rfl | assumption); omega)
    | ((with_reducible apply lm_wJ); (first | exact rfl | assumption); omega)
    | ((with_reducible apply lm_wB); (first | exact rfl | assumption); omega)
    | ((with_reducible apply lm_sAl); (first | exact rfl | assumption); omega)
    | ((with_reducible apply lm_iW); decide))
      simp only [Nat.reduceDiv, Nat.reduceMod]
      rw [e325, lm_om]
      refine lm_cV c6 ?_
      repeat (first
    | ((with_reducible apply lm_sI); exact rfl)
    | ((with_reducible apply lm_sR); exact rfl)
    | ((with_reducible apply lm_sS); exact rfl; exact rfl)
    | ((with_reducible apply lm_sL); exact rfl)
    | ((with_reducible apply lm_sP); exact rfl; exact rfl)
    | ((with_reducible apply lm_sPL); exact rfl; exact rfl)
    | ((with_reducible apply lm_sAA); exact rfl; exact rfl)
    | ((with_reducible apply lm_sA); (first | exact rfl | assumption); omega)
    | ((with_reducible apply lm_sJ); (first | exact rfl | assumption); omega)
    | ((with_reducible apply lm_sB); (first | exact rfl | assumption); omega)
    | ((with_reducible apply lm_wA); (first | exact rfl | assumption); omega)
    | ((with_reducible apply lm_wJ); (first | exact rfl | assumption); omega)
    | ((with_reducible apply lm_wB); (first | exact rfl | assumption); omega)
    | ((with_reducible apply lm_sAl); (first | exact rfl | assumption); omega)
    | ((with_reducible apply lm_iW); decide))
      exact k7
    · rw [r1 r q1 q5, lm_u_row q1, g1 r q1 q2 q4 (by omega) (by omega), d1 r q1 (by omega) (by omega), fr3 r q1 q2 (by omega) q4 q5, frM r q1 q2 q3 q4]
    · exact a2.B.tr (BM.tr (b2.tr ((lm_fB.of (p3.1 203 (by decide))).tr ((lm_fB.p d2).tr (g2.B.tr ((lm_fB.p fun j hj => lm_u_ne (fun g => hj g.2)).tr (.p r2)))))))
    · have hm : 256 * du * k = 8 * (32 * du * k) := by rw [← Nat.mul_assoc, ← Nat.mul_assoc]
      have := lm_PB_yb r3 (j := j) (by omega)
      rw [Nat.zero_add] at this
      rw [this, lm_ctS_ct hdu1 hdv1]
  · rw [eqM] at hn
    rw [eR] at k2
    refine Or.inr ⟨m2, n2, head _ k2, fun g => hn (g j' i' hj' hi'), fun r q1 q2 q3 q4 q5 => ?_, a2.B.tr (BM.tr b2)⟩
    rw [b1 r q1 q2 (by omega) q4 q5, frM r q1 q2 q3 q4]
end LMRV
