/-! ===== encrypt of the class: the last polynomial, the whole ===== -/
section LMEX
variable {xs : List Int32} {C : lm_CX} {d k e du dv q v a t w : Nat} {m m0 : lm_MI} {n n0 : lm_ML} {x : lm_H × Nat × Nat} {P : Nat → Int32}
/-- the sum of the key's polynomials -/
theorem lm_l228q (h : lm_KP C P k e m0) (hk : k ≤ 4) (hq : lm_ar q = some (1, v)) (hq2 : 22 < q ∧ q < 48) (hav : a + 384 * k ≤ v) (hv : v ≤ 70000) (hV : ∀ j, j < k → ∀ c, c < 256 → m0 (65 + j) c = Int32.ofInt (lm_kS C P 32 e j c)) (hS : lm_PA m0 m 69 (fun _ => 0)) : ∃ m', (∀ r, r ≠ 69 → r ≠ 70 → m' r = m0 r) ∧ (∀ c, c < 256 → m' 69 c = Int32.ofInt (lm_eW C P e k (fun j => lm_T12 (m0 q) a j) c)) ∧ ∀ R, lm_rn (lm_sc xs) (d + 6) lm_m228.2.2.2.2.1 (lm_reg lm_m228.2.2.2.2.2) (168, [(0, .ref 44), (1, .ref q), (2, .int (Int32.ofNat a)), (3, .ref t), (4, .int (Int32.ofNat k))], []) (lm_w m' n x) = some R → lm_rn (lm_sc xs) (d + 6) lm_m228.2.2.2.2.1 (lm_reg lm_m228.2.2.2.2.2) (168, [(0, .ref 44), (1, .ref q), (2, .int (Int32.ofNat a)), (3, .ref t), (4, .int (Int32.ofNat 0))], []) (lm_w m n x) = some R := by
  obtain ⟨m', n', ⟨en, h1, h2⟩, k1⟩ := lm_lp (sc := lm_sc xs) (d := d + 6) (b := k) (hs := lm_m228.2.2.2.2.1) (code := lm_reg lm_m228.2.2.2.2.2) (x := x) (fr := fun j => (168, [(0, .ref 44), (1, .ref q), (2, .int (Int32.ofNat a)), (3, .ref t), (4, .int (Int32.ofNat j))], [])) (I := fun j m' n' => n' = n ∧ (∀ r, r ≠ 69 → r ≠ 70 → m' r = m0 r) ∧ ∀ c, c < 256 → m' 69 c = Int32.ofInt (lm_apc (fun _ => 0) (fun j => lm_T12 (m0 q) a j) (fun j => lm_kS C P 32 e j) j c)) (fun j hj m1 n1 ⟨en, h1, h2⟩ => by
    subst en
    have hjk : 384 * j + 384 ≤ 384 * k := by omega
    have hk1 : m1 44 12 = Int32.ofNat k := by rw [h1 44 (by decide) (by decide)]; exact h.2.2.1
    obtain ⟨m2, c2, p2⟩ := lm_u227 (sc := lm_sc xs) (e := d + 5) (m := m1) (n := n1) (x := x) (q := q) (v := v) (p := 70) (a := a + 384 * j) (d := 12) hq rfl (by omega) (by decide) (by decide) hv (by omega)
    have e70 : ∀ c, c < 256 → m2 70 c = Int32.ofInt (lm_T12 (m0 q) a j c) := fun c hc => by
      rw [p2.2 c hc, h1 q (by omega) (by omega)]
      rfl
    obtain ⟨m3, c3, p3⟩ := lm_u220 (sc := lm_sc xs) (d := d + 5) (n := n1) (x := x) (m0 := m2) (m := m2) (f := 70) (g := 65 + j) (S := lm_apc (fun _ => 0) (fun j => lm_T12 (m0 q) a j) (fun j => lm_kS C P 32 e j) j) (F := lm_T12 (m0 q) a j) (H := lm_kS C P 32 e j) rfl (lm_arV j (by omega)) (by decide) (by omega) (fun t ht => by rw [p2.1 46 (by decide), h1 46 (by decide) (by decide)]; exact h.2.1.2 t ht) ⟨fun _ _ => rfl, fun c hc => by rw [p2.1 69 (by decide)]; exact h2 c hc⟩ e70 (fun c hc => by rw [p2.1 _ (by omega), h1 _ (by omega) (by omega)]; exact hV j hj c hc) (lm_T12_rg.bnd (by decide)) (lm_kS_rg.bnd (by decide))
    refine ⟨m3, n1, ⟨rfl, fun r r1 r2 => by rw [p3.1 r r1, p2.1 r r2, h1 r r1 r2], p3.2⟩, fun R K => lm_e228_168 ?_⟩
    unfold lm_q228_168
    repeat (first
    | ((with_reducible apply lm_sI); exact rfl)
    | ((with_reducible apply lm_sR); exact rfl)
    | ((with_reducible apply lm_sS); exact rfl; exact rfl)
    | ((with_reducible apply lm_sL); exact rfl)
    | ((with_reducible apply lm_sP); exact rfl; exact rfl)
    | ((with_reducible apply lm_sPL); exact rfl; exact rfl)
    | ((with_reducible apply lm_sAA); exact rfl; exact rfl)
    | ((with_reducible apply lm_sA); (first | exact rfl | assumption); omega)
    | ((with_reducible apply lm_sJ); (first | exact rfl | assumption); omega)
    | ((with_reducible apply lm_sB); (first | exact rfl | assumption); omega)
    | ((with_reducible apply lm_wA); (first | exact rfl | assumption); omega)
    | ((with_reducible apply lm_wJ); (first | exact rfl | assumption); omega)
    | ((with_reducible apply lm_wB); (first | exact rfl | assumption); omega)
    | ((with_reducible apply lm_sAl); (first | exact rfl | assumption); omega)
    | ((with_reducible apply lm_iW); decide))
    simp only [Nat.reduceDiv, Nat.reduceMod]
    rw [hk1]
    refine lm_geF (by omega) (by omega) (by omega) ?_
    repeat (first
    | ((with_reducible apply lm_sI); exact rfl)
    | ((with_reducible apply lm_sR); exact rfl)
    | ((with_reducible apply lm_sS); exact rfl; exact rfl)
    | ((with_reducible apply lm_sL); exact rfl)
    | ((with_reducible apply lm_sP); exact rfl; exact rfl)
    | ((with_reducible apply lm_sPL); exact rfl; exact rfl)
    | ((with_reducible apply lm_sAA); exact rfl; exact rfl)
    | ((with_reducible apply lm_sA); (first | exact rfl | assumption); omega)
    | ((with_reducible apply lm_sJ); (first | exact rfl | assumption); omega)
    | ((with_reducible apply lm_sB); (first | exact rfl | assumption); omega)
    | ((with_reducible apply lm_wA); (first | exact rfl | assumption); omega)
    | ((with_reducible apply lm_wJ); (first | exact rfl | assumption); omega)
    | ((with_reducible apply lm_wB); (first | exact rfl | assumption); omega)
    | ((with_reducible apply lm_sAl); (first | exact rfl | assumption); omega)
    | ((with_reducible apply lm_iW); decide))
    rw [lm_K384, lm_K12, lm_om, lm_oo]
    refine lm_cV c2 ?_
    repeat (first
    | ((with_reducible apply lm_sI); exact rfl)
    | ((with_reducible apply lm_sR); exact rfl)
    | ((with_reducible apply lm_sS); exact rfl; exact rfl)
    | ((with_reducible apply lm_sL); exact rfl)
    | ((with_reducible apply lm_sP); exact rfl; exact rfl)
    | ((with_reducible apply lm_sPL); exact rfl; exact rfl)
    | ((with_reducible apply lm_sAA); exact rfl; exact rfl)
    | ((with_reducible apply lm_sA); (first | exact rfl | assumption); omega)
    | ((with_reducible apply lm_sJ); (first | exact rfl | assumption); omega)
    | ((with_reducible apply lm_sB); (first | exact rfl | assumption); omega)
    | ((with_reducible apply lm_wA); (first | exact rfl | assumption); omega)
    | ((with_reducible apply lm_wJ); (first | exact rfl | assumption); omega)
    | ((with_reducible apply lm_wB); (first | exact rfl | assumption); omega)
    | ((with_reducible apply lm_sAl); (first | exact rfl | assumption); omega)
    | ((with_reducible apply lm_iW); decide))
    refine lm_sAA rfl (lm_roV j (by omega)) ?_
    repeat (first
    | ((with_reducible apply lm_sI); exact rfl)
    | ((with_reducible apply lm_sR); exact rfl)
    | ((with_reducible apply lm_sS); exact rfl; exact rfl)
    | ((with_reducible apply lm_sL); exact rfl)
    | ((with_reducible apply lm_sP); exact rfl; exact rfl)
    | ((with_reducible apply lm_sPL); exact rfl; exact rfl)
    | ((with_reducible apply lm_sAA); exact rfl; exact rfl)
    | ((with_reducible apply lm_sA); (first | exact rfl | assumption); omega)
    | ((with_reducible apply lm_sJ); (first | exact rfl | assumption); omega)
    | ((with_reducible apply lm_sB); (first | exact rfl | assumption); omega)
    | ((with_reducible apply lm_wA); (first | exact rfl | assumption); omega)
    | ((with_reducible apply lm_wJ); (first | exact rfl | assumption); omega)
    | ((with_reducible apply lm_wB); (first | exact rfl | assumption); omega)
    | ((with_reducible apply lm_sAl); (first | exact rfl | assumption); omega)
    | ((with_reducible apply lm_iW); decide))
    refine lm_cV c3 ?_
    rw [lm_K1, lm_oo]
    exact K) k 0 (by omega) m n ⟨rfl, fun r r1 _ => hS.1 r r1, hS.2⟩
  subst en
  exact ⟨m', h1, h2, k1⟩
/-- how encrypt ends where a polynomial can't be had -/
theorem lm_u228 (hC : lm_Cok xs C) (h : lm_KP C P k e m) (he : e = 2 ∨ e = 3) (hk : k ≤ 4) (hx : lm_rom x) (h14 : m 44 14 = Int32.ofNat du) (h15 : m 44 15 = Int32.ofNat dv) (hdu1 : 1 ≤ du) (hdu : du ≤ 11) (hdv1 : 1 ≤ dv) (hdv : dv ≤ 11) (hsz : 32 * du * k + 32 * dv ≤ 1568) (hq : lm_ar q = some (1, v)) (hq2 : 22 < q ∧ q < 48) (hav : a + 384 * k + 32 ≤ v) (hv : v ≤ 70000) (ht : lm_ar t = some (1, w)) (hw : 32 ≤ w) (ht2 : (22 < t ∧ t < 48) ∨ t = 74) : (∃ m' n', lm_cal (lm_sc xs) (d + 7) 228 [.ref 44, .ref q, .int (Int32.ofNat a), .ref t] (lm_w m n x) = some (.ok none, lm_w m' n' x) ∧ lm_kAll C (m q) (a + 384 * k) k ∧ (∀ r, (r < 5 ∨ 22 < r) → (r < 48 ∨ r = 73 ∨ r = 74 ∨ 75 < r) → m' r = m r) ∧ lm_fN m n m' n' ∧ ∀ j, j < 32 * du * k + 32 * dv → lm_yb (m' 75 j) = lm_ct C P e k du dv (fun i j => lm_kAi C (m q) (a + 384 * k) i j) (fun j => lm_T12 (m q) a j) (lm_bx (m t)) j) ∨ ∃ m' n', lm_cal (lm_sc xs) (d + 7) 228 [.ref 44, .ref q, .int (Int32.ofNat a), .ref t] (lm_w m n x) = some (.error (lm_xp x), lm_w m' n' (lm_xx 15 x)) ∧ ¬ lm_kAll C (m q) (a + 384 * k) k ∧ (∀ r, (r < 5 ∨ 22 < r) → (r < 48 ∨ 72 < r) → m' r = m r) ∧ lm_fN m n m' n' := by
  have start : ∀ R, lm_bind (lm_asV (lm_cal (lm_sc xs) (d + 6) 216 [.ref 44, .ref q, .int (Int32.ofNat (a + 384 * k))])) (fun _ => lm_rn (lm_sc xs) (d + 6) lm_m228.2.2.2.2.1 (lm_reg lm_m228.2.2.2.2.2) (18, [(0, .ref 44), (1, .ref q), (2, .int (Int32.ofNat a)), (3, .ref t), (4, .int (Int32.ofNat 0))], [])) (lm_w m n x) = some R → lm_cal (lm_sc xs) (d + 7) 228 [.ref 44, .ref q, .int (Int32.ofNat a), .ref t] (lm_w m n x) = some R := by
    intro R K
    refine lm_cal_of (Y := lm_m228) rfl rfl (lm_e228_0 ?_)
    unfold lm_q228_0
    repeat (first
    | ((with_reducible apply lm_sI); exact rfl)
    | ((with_reducible apply lm_sR); exact rfl)
    | ((with_reducible apply lm_sS); exact rfl; exact rfl)
    | ((with_reducible apply lm_sL); exact rfl)
    | ((with_reducible apply lm_sP); exact rfl; exact rfl)
    | ((with_reducible apply lm_sPL); exact rfl; exact rfl)
    | ((with_reducible apply lm_sAA); exact rfl; exact rfl)
    | ((with_reducible apply lm_sA); (first | exact rfl | assumption); omega)
    | ((with_reducible apply lm_sJ); (first | exact rfl | assumption); omega)
    | ((with_reducible apply lm_sB); (first | exact rfl | assumption); omega)
    | ((with_reducible apply lm_wA); (first | exact rfl | assumption); omega)
    | ((with_reducible apply lm_wJ); (first | exact rfl | assumption); omega)
    | ((with_reducible apply lm_wB); (first | exact rfl | assumption); omega)
    | ((with_reducible apply lm_sAl); (first | exact rfl | assumption); omega)
    | ((with_reducible apply lm_iW); decide))
    simp only [Nat.reduceDiv, Nat.reduceMod]
    rw [h.2.2.1, lm_K384, lm_om, lm_oo, lm_K0]
    exact K
  rcases lm_u216 (xs := xs) (d := d) (x := x) (m := m) (n := n) (k := k) (q := q) (v := v) (a := a + 384 * k) hC h.1 hx h.2.2.1 hk hq (by omega) hv with ⟨m2, n2, c2, f2, g2, v2⟩ | ⟨R, ⟨m2, n2, eR, f2, g2, i, j, hi, hj, hn⟩, c2⟩
  · refine Or.inl ?_
    have hkk : k * k ≤ 16 := Nat.mul_le_mul hk hk
    have hjk : ∀ j, j < k → j * k + k ≤ k * k := fun j hj => by
      rw [← Nat.succ_mul]
      exact Nat.mul_le_mul_right k hj
    have hall : lm_kAll C (m q) (a + 384 * k) k := fun i j hi hj => (v2 i j hi hj).1
    have eq2 : m2 q = m q := f2 q (by omega) (by omega) (by omega) (by omega)
    have et2 : m2 t = m t := f2 t (by omega) (by omega) (by omega) (by omega)
    have K2 : lm_KP C P k e m2 := h.keep (g2.rt h.1) (f2 44 (by decide) (by decide) (by decide) (by decide)) (f2 45 (by decide) (by decide) (by decide) (by decide)) (f2 46 (by decide) (by decide) (by decide) (by decide)) (f2 73 (by decide) (by decide) (by decide) (by decide))
    obtain ⟨m3, n3, ⟨a1, a2, a3⟩, k3⟩ := lm_l228a (xs := xs) (d := d) (q := q) (t := t) (at' := Int32.ofNat a) (x := x) (n := n2) hC K2 he hk
    have K3 : lm_KP C P k e m3 := K2.keep (a2.rt K2.1) (a1 44 (by decide) (by decide) (by decide) (by decide)) (a1 45 (by decide) (by decide) (by decide) (by decide)) (a1 46 (by decide) (by decide) (by decide) (by decide)) (a1 73 (by decide) (by decide) (by decide) (by decide))
    have e44 : m3 44 = m 44 := by rw [a1 44 (by decide) (by decide) (by decide) (by decide), f2 44 (by decide) (by decide) (by decide) (by decide)]
    obtain ⟨m4, n4, ⟨b1, b2, b3⟩, k4⟩ := lm_l228b (xs := xs) (d := d) (q := q) (t := t) (w := w) (at' := Int32.ofNat a) (x := x) (n := n3) (du := du) (A := fun i j => lm_kAi C (m q) (a + 384 * k) i j) hC K3 hk (by rw [e44]; exact h14) hdu1 hdu (by omega) ht hw (by omega) (fun i j hi hj => ⟨lm_kAi_rg (hall j i hj hi), fun c hc => by
      have := hjk j hj
      rw [a1 _ (by omega) (by omega) (by omega) (by omega), (v2 j i hj hi).2 c hc, lm_oN]
      rfl⟩) (fun j hj c hc => a3 j hj c hc)
    have K4 : lm_KP C P k e m4 := K3.keep (b2.rt K3.1) (b1 44 (by decide) (by decide) (by decide) (by decide) (by decide) (by decide)) (b1 45 (by decide) (by decide) (by decide) (by decide) (by decide) (by decide)) (b1 46 (by decide) (by decide) (by decide) (by decide) (by decide) (by decide)) (b1 73 (by decide) (by decide) (by decide) (by decide) (by decide) (by decide))
    have e444 : m4 44 = m 44 := by rw [b1 44 (by decide) (by decide) (by decide) (by decide) (by decide) (by decide), e44]
    obtain ⟨m5, c5, p5⟩ := lm_u287 (sc := lm_sc xs) (d := d + 5) (m := m4) (n := n4) (x := x) (p := 69) rfl
    have eq4 : m4 q = m q := by rw [b1 q (by omega) (by omega) (by omega) (by omega) (by omega) (by omega), a1 q (by omega) (by omega) (by omega) (by omega), eq2]
    have et4 : m4 t = m t := by rw [b1 t (by omega) (by omega) (by omega) (by omega) (by omega) (by omega), a1 t (by omega) (by omega) (by omega) (by omega), et2]
    obtain ⟨m6, d1, d2, k6⟩ := lm_l228q (xs := xs) (d := d) (q := q) (v := v) (a := a) (t := t) (x := x) (n := n4) (m0 := m4) (m := m5) K4 hk hq hq2 (by omega) hv (fun j hj c hc => by rw [b1 _ (by omega) (by omega) (by omega) (by omega) (by omega) (by omega)]; exact a3 j hj c hc) p5
    rw [eq4] at d2
    have K6 : lm_KP C P k e m6 := K4.keep ⟨by rw [d1 11 (by decide) (by decide)]; exact K4.1.1, by rw [d1 17 (by decide) (by decide)]; exact K4.1.2⟩ (d1 44 (by decide) (by decide)) (d1 45 (by decide) (by decide)) (d1 46 (by decide) (by decide)) (d1 73 (by decide) (by decide))
    have e446 : m6 44 = m 44 := by rw [d1 44 (by decide) (by decide), e444]
    obtain ⟨m7, n7, c7, f7, g7, a7, b7⟩ := lm_u288 (xs := xs) (d := d) (n := n4) (x := x) (num := 2 * k) (bits := dv) (a := 32 * du * k) (t := t) (v := w) hC K6 hk (by omega) hdv1 hdv (by omega) ht hw (by omega) d2 (lm_eW_bnd hk fun j hj => lm_T12_rg.bnd (by decide))
    refine ⟨m7, n7, ?_, hall, fun r r1 r2 => ?_, ?_, fun j hj => ?_⟩
    · refine start _ (lm_cV c2 (k3 _ (lm_e228_18 ?_)))
      clear v2 hall
      unfold lm_q228_18
      repeat (first
    | ((with_reducible apply lm_sI); exact rfl)
    | ((with_reducible apply lm_sR); exact rfl)
    | ((with_reducible apply lm_sS); exact rfl; exact rfl)
    | ((with_reducible apply lm_sL); exact rfl)
    | ((with_reducible apply lm_sP); exact rfl; exact rfl)
    | ((with_reducible apply lm_sPL); exact rfl; exact rfl)
    | ((with_reducible apply lm_sAA); exact rfl; exact rfl)
    | ((with_reducible apply lm_sA); (first | exact rfl | assumption); omega)
    | ((with_reducible apply lm_sJ); (first | exact rfl | assumption); omega)
    | ((with_reducible apply lm_sB); (first | exact rfl | assumption); omega)
    | ((with_reducible apply lm_wA); (first | exact rfl | assumption); omega)
    | ((with_reducible apply lm_wJ); (first | exact rfl | assumption); omega)
    | ((with_reducible apply lm_wB); (first | exact rfl | assumption); omega)
    | ((with_reducible apply lm_sAl); (first | exact rfl | assumption); omega)
    | ((with_reducible apply lm_iW); decide))
      simp only [Nat.reduceDiv, Nat.reduceMod]
      rw [K3.2.2.1]
      refine lm_geT (by omega) (by omega) (by omega) ?_
      rw [lm_K0]
      refine k4 _ (lm_e228_64 ?_)
      unfold lm_q228_64
      repeat (first
    | ((with_reducible apply lm_sI); exact rfl)
    | ((with_reducible apply lm_sR); exact rfl)
    | ((with_reducible apply lm_sS); exact rfl; exact rfl)
    | ((with_reducible apply lm_sL); exact rfl)
    | ((with_reducible apply lm_sP); exact rfl; exact rfl)
    | ((with_reducible apply lm_sPL); exact rfl; exact rfl)
    | ((with_reducible apply lm_sAA); exact rfl; exact rfl)
    | ((with_reducible apply lm_sA); (first | exact rfl | assumption); omega)
    | ((with_reducible apply lm_sJ); (first | exact rfl | assumption); omega)
    | ((with_reducible apply lm_sB); (first | exact rfl | assumption); omega)
    | ((with_reducible apply lm_wA); (first | exact rfl | assumption); omega)
    | ((with_reducible apply lm_wJ); (first | exact rfl | assumption); omega)
    | ((with_reducible apply lm_wB); (first | exact rfl | assumption); omega)
    | ((with_reducible apply lm_sAl); (first | exact rfl | assumption); omega)
    | ((with_reducible apply lm_iW); decide))
      simp only [Nat.reduceDiv, Nat.reduceMod]
      rw [K4.2.2.1]
      refine lm_geT (by omega) (by omega) (by omega) ?_
      repeat (first
    | ((with_reducible apply lm_sI); exact rfl)
    | ((with_reducible apply lm_sR); exact rfl)
    | ((with_reducible apply lm_sS); exact rfl; exact rfl)
    | ((with_reducible apply lm_sL); exact rfl)
    | ((with_reducible apply lm_sP); exact rfl; exact rfl)
    | ((with_reducible apply lm_sPL); exact rfl; exact rfl)
    | ((with_reducible apply lm_sAA); exact rfl; exact rfl)
    | ((with_reducible apply lm_sA); (first | exact rfl | assumption); omega)
    | ((with_reducible apply lm_sJ); (first | exact rfl | assumption); omega)
    | ((with_reducible apply lm_sB); (first | exact rfl | assumption); omega)
    | ((with_reducible apply lm_wA); (first | exact rfl | assumption); omega)
    | ((with_reducible apply lm_wJ); (first | exact rfl | assumption); omega)
    | ((with_reducible apply lm_wB); (first | exact rfl | assumption); omega)
    | ((with_reducible apply lm_sAl); (first | exact rfl | assumption); omega)
    | ((with_reducible apply lm_iW); decide))
      refine lm_cV c5 ?_
      rw [lm_K0]
      refine k6 _ (lm_e228_168 ?_)
      unfold lm_q228_168
      repeat (first
    | ((with_reducible apply lm_sI); exact rfl)
    | ((with_reducible apply lm_sR); exact rfl)
    | ((with_reducible apply lm_sS); exact rfl; exact rfl)
    | ((with_reducible apply lm_sL); exact rfl)
    | ((with_reducible apply lm_sP); exact rfl; exact rfl)
    | ((with_reducible apply lm_sPL); exact rfl; exact rfl)
    | ((with_reducible apply lm_sAA); exact rfl; exact rfl)
    | ((with_reducible apply lm_sA); (first | exact rfl | assumption); omega)
    | ((with_reducible apply lm_sJ); (first | exact rfl | assumption); omega)
    | ((with_reducible apply lm_sB); (first | exact rfl | assumption); omega)
    | ((with_reducible apply lm_wA); (first | exact rfl | assumption); omega)
    | ((with_reducible apply lm_wJ); (first | exact rfl | assumption); omega)
    | ((with_reducible apply lm_wB); (first | exact rfl | assumption); omega)
    | ((with_reducible apply lm_sAl); (first | exact rfl | assumption); omega)
    | ((with_reducible apply lm_iW); decide))
      simp only [Nat.reduceDiv, Nat.reduceMod]
      rw [K6.2.2.1]
      refine lm_geT (by omega) (by omega) (by omega) ?_
      repeat (first
    | ((with_reducible apply lm_sI); exact rfl)
    | ((with_reducible apply lm_sR); exact rfl)
    | ((with_reducible apply lm_sS); exact rfl; exact rfl)
    | ((with_reducible apply lm_sL); exact rfl)
    | ((with_reducible apply lm_sP); exact rfl; exact rfl)
    | ((with_reducible apply lm_sPL); exact rfl; exact rfl)
    | ((with_reducible apply lm_sAA); exact rfl; exact rfl)
    | ((with_reducible apply lm_sA); (first | exact rfl | assumption); omega)
    | ((with_reducible apply lm_sJ); (first | exact rfl | assumption); omega)
    | ((with_reducible apply lm_sB); (first | exact rfl | assumption); omega)
    | ((with_reducible apply lm_wA); (first | exact rfl | assumption); omega)
    | ((with_reducible apply lm_wJ); (first | exact rfl | assumption); omega)
    | ((with_reducible apply lm_wB); (first | exact rfl | assumption); omega)
    | ((with_reducible apply lm_sAl); (first | exact rfl | assumption); omega)
    | ((with_reducible apply lm_iW); decide))
      simp only [Nat.reduceDiv, Nat.reduceMod]
      rw [K6.2.2.1, show m6 44 14 = Int32.ofNat du by rw [e446]; exact h14, show m6 44 15 = Int32.ofNat dv by rw [e446]; exact h15, lm_K2, lm_K32, lm_om, lm_om, lm_om]
      exact lm_cV c7 rfl
    · rw [f7 r r1 (by omega) (by omega) (by omega) (by omega) (by omega), d1 r (by omega) (by omega), b1 r r1 (by omega) (by omega) (by omega) (by omega) (by omega), a1 r r1 (by omega) (by omega) (by omega), f2 r r1 (by omega) (by omega) (by omega)]
    · exact g2.tr (a2.tr (b2.tr ((lm_fN.of (d1 11 (by decide) (by decide)) (d1 17 (by decide) (by decide))).tr g7)))
    · unfold lm_ct
      by_cases c0 : j < 32 * du * k
      · rw [if_pos c0, a7 j (by omega), d1 75 (by decide) (by decide)]
        exact b3 j c0
      · rw [if_neg c0]
        have := b7 (j - 32 * du * k) (by omega)
        rw [show 32 * du * k + (j - 32 * du * k) = j by omega] at this
        have ef : (fun c => lm_co dv (lm_eZ C P (2 * k) (lm_eW C P e k (fun j => lm_T12 (m q) a j)) (fun c => if 2 * k = 2 * k then (ln_bt (fun j => m6 t j) c).toNat else 0) c).toNat) = fun c => (lm_eV C P e k dv (fun j => lm_T12 (m q) a j) (lm_bx (m t)) 0 c).toNat := by
          funext c
          unfold lm_eV
          rw [Int.toNat_natCast, show (fun c => if 2 * k = 2 * k then (ln_bt (fun j => m6 t j) c).toNat else 0) = lm_bx (m t) from funext fun c => by rw [if_pos rfl, d1 t (by omega) (by omega), et4]; rfl]
        rw [ef] at this
        rw [this, show lm_pkB (lm_eV C P e k dv (fun j => lm_T12 (m q) a j) (lm_bx (m t))) dv (j - 32 * du * k) = lm_pkB (lm_eV C P e k dv (fun j => lm_T12 (m q) a j) (lm_bx (m t))) dv (32 * dv * 0 + (j - 32 * du * k)) by rw [Nat.mul_zero, Nat.zero_add], lm_pkB_at (by omega)]
  · rw [eR] at c2
    refine Or.inr ⟨m2, n2, start _ (lm_cVe c2), fun g => hn (g i j hi hj), fun r r1 r2 => f2 r r1 (by omega) (by omega) (by omega), g2⟩
end LMEX
