/-! ===== encrypt of the reference, whole ===== -/
section LMRQ
variable {sc : lm_H} {C : lm_CX} {d k e du dv q v a t w : Nat} {m m0 : lm_MI} {n n0 : lm_ML} {x : lm_H × Nat × Nat} {P : Nat → Int32} {T : Nat → Nat → Int} {b : Nat → Nat}
/-- un, noise -/
theorem lm_l78n {p num f : Nat} (h : lm_RK0 C k e m n) (hP : ∀ i, i < 32 → lm_b8 (m 263 (f + i)) = lm_b8 (P (32 + i))) (hf : f + 32 ≤ 256) {G : Nat → Int} (hG : ∀ c, c < 256 → m 243 c = Int32.ofInt (G c)) (bG : lm_rg 4095 G) : ∃ m1 n1 m2 n2, lm_cal sc (d + 6) 83 [.ref 203, .ref 243] (lm_w m n x) = some (.ok none, lm_w m1 n1 x) ∧ lm_cal sc (d + 6) 70 [.ref 203, .ref 245, .int (Int32.ofNat 2), .ref 263, .int (Int32.ofNat f), .int (Int32.ofNat num)] (lm_w m1 n1 x) = some (.ok none, lm_w m2 n2 x) ∧ (∀ r, r ≠ 203 → r ≠ 227 → r ≠ 264 → r ≠ 243 → r ≠ 245 → m2 r = m r) ∧ lm_fG m n m2 n2 ∧ m1 203 = m 203 ∧ (∀ c, c < 256 → m2 243 c = Int32.ofInt (lm_un G c % 3329)) ∧ ∀ c, c < 256 → m2 245 c = Int32.ofInt (lm_kno C P 32 2 num c % 3329) := by
  obtain ⟨m1, n1, c1, p1, f1⟩ := lm_u83 (sc := sc) (d := d + 4) (x := x) (p := 243) (m := m) (n := n) rfl h.2.2.2 bG hG
  have g1 : lm_fG m n m1 n1 := (lm_fG.of (p1.1 203 (by decide))).tr (lm_fG.ofn f1)
  have h1 : lm_RK0 C k e m1 n1 := h.keep g1 (p1.1 221 (by decide)) (p1.1 231 (by decide))
  obtain ⟨m2, n2, c2, f2, g2, v2⟩ := lm_u70 (sc := sc) (d := d) (x := x) (m := m1) (n := n1) (p := 245) (q := 263) (v := 256) (a := f) (e := 2) (w := Int32.ofNat num) h1.1 (Or.inl rfl) rfl (by decide) rfl (by decide) hf (by decide)
  have ek : lm_cb (ln_bt (lm_Hm C 12 (lm_gn (m1 263) f (Int32.ofNat num)) 33)) 2 = lm_kno C P 32 2 num := by
    unfold lm_kno
    rw [p1.1 263 (by decide), lm_gn_ext hP]
  rw [ek] at v2
  refine ⟨m1, n1, m2, n2, c1, c2, fun r r1 r2 r3 r4 r5 => (f2 r r1 r2 r3 r5).trans (p1.1 r r4), g1.tr g2, p1.1 203 (by decide), fun c hc => ?_, v2⟩
  rw [f2 243 (by decide) (by decide) (by decide) (by decide)]
  exact p1.2 c hc
theorem lm_eZ_of {num : Nat} {G W : Nat → Int} {bb : Nat → Nat} (h : ∀ c, ln_cg 3329 (G c) (W c)) (c : Nat) : (lm_un G c % 3329 + lm_kno C P 32 2 num c % 3329 + (lm_ex 1 (bb c) : Nat)) % 3329 = lm_eZ C P num W bb c := by
  unfold lm_eZ
  exact (((ln_cg.em.tr (lm_un_cg h c)).ad ln_cg.em).ad ln_cg.rf).eq
def lm_I61 (C : lm_CX) (P : Nat → Int32) (e k du dv : Nat) (K : Nat → Int32) (a : Nat) (T : Nat → Nat → Int) (b : Nat → Nat) (m0 : lm_MI) (n0 : lm_ML) (i : Nat) (m : lm_MI) (n : lm_ML) : Prop := (∀ r, r ≠ 203 → r ≠ 227 → (r < 243 ∨ 245 < r) → r ≠ 264 → r ≠ 266 → m r = m0 r) ∧ lm_fB m0 n0 m n ∧ lm_PB m 266 0 (du * (256 * i)) (lm_ctS C P e k du dv (fun i j => lm_kAi C K a i j) T b) ∧ ∀ i' j', i' < i → j' < k → (lm_kA C K a i' j').1 = 256
theorem lm_l78f {f : Nat} (h : lm_RK0 C k e m n) (hk : k ≤ 4) (hk1 : 1 ≤ k) (h34 : m 203 34 = Int32.ofNat du) (hdu1 : 1 ≤ du) (hdu : du ≤ 11) (hq : lm_ar q = some (1, v)) (hv : v ≤ 70000) (hav : a + 384 * k + 32 ≤ v) (hq2 : 205 < q ∧ q < 214) (hf : f + 32 ≤ 256) (hP : ∀ i, i < 32 → lm_b8 (m 263 (f + i)) = lm_b8 (P (32 + i))) (hV : ∀ j, j < k → ∀ c, c < 256 → m (233 + j) c = Int32.ofInt (lm_kS C P 32 e j c)) : (∃ m' n', lm_I61 C P e k du dv (m q) (a + 384 * k) T b m n k m' n' ∧ ∀ R, lm_rn sc (d + 6) lm_m78.2.2.2.2.1 (lm_reg lm_m78.2.2.2.2.2) (61, [(0, .ref 203), (1, .ref q), (2, .int (Int32.ofNat a)), (3, .ref t), (4, .ref 263), (5, .int (Int32.ofNat f)), (6, .int (Int32.ofNat (du * (256 * k)))), (7, .int (Int32.ofNat k))], []) (lm_w m' n' x) = some R → lm_rn sc (d + 6) lm_m78.2.2.2.2.1 (lm_reg lm_m78.2.2.2.2.2) (61, [(0, .ref 203), (1, .ref q), (2, .int (Int32.ofNat a)), (3, .ref t), (4, .ref 263), (5, .int (Int32.ofNat f)), (6, .int (Int32.ofNat (du * (256 * 0)))), (7, .int (Int32.ofNat 0))], []) (lm_w m n x) = some R) ∨ ∃ R, lm_E78 C (m q) (a + 384 * k) k m n x R ∧ lm_rn sc (d + 6) lm_m78.2.2.2.2.1 (lm_reg lm_m78.2.2.2.2.2) (61, [(0, .ref 203), (1, .ref q), (2, .int (Int32.ofNat a)), (3, .ref t), (4, .ref 263), (5, .int (Int32.ofNat f)), (6, .int (Int32.ofNat (du * (256 * 0)))), (7, .int (Int32.ofNat 0))], []) (lm_w m n x) = some R := by
  refine lm_lpe (sc := sc) (d := d + 6) (b := k) (hs := lm_m78.2.2.2.2.1) (code := lm_reg lm_m78.2.2.2.2.2) (x := x) (fr := fun i => (61, [(0, .ref 203), (1, .ref q), (2, .int (Int32.ofNat a)), (3, .ref t), (4, .ref 263), (5, .int (Int32.ofNat f)), (6, .int (Int32.ofNat (du * (256 * i)))), (7, .int (Int32.ofNat i))], [])) (I := fun i m' n' => lm_I61 C P e k du dv (m q) (a + 384 * k) T b m n i m' n') (E := lm_E78 C (m q) (a + 384 * k) k m n x) (fun i hi m1 n1 ⟨g1, g2, g3, g4⟩ => ?_) k 0 (by omega) m n ⟨fun _ _ _ _ _ _ => rfl, .rf, ⟨fun t ht => absurd ht (by omega), fun t _ _ h => absurd (by simp) h⟩, fun i' j' hi' => absurd hi' (by omega)⟩
  have h1 : lm_RK0 C k e m1 n1 := h.keepB g2 (g1 221 (by decide) (by decide) (by decide) (by decide) (by decide)) (g1 231 (by decide) (by decide) (by decide) (by decide) (by decide))
  obtain ⟨m2, c2, p2⟩ := lm_u81 (sc := sc) (d := d + 5) (m := m1) (n := n1) (x := x) (p := 243) rfl
  have h2 : lm_RK0 C k e m2 n1 := h1.keep (lm_fG.of (p2.1 203 (by decide))) (p2.1 221 (by decide)) (p2.1 231 (by decide))
  have eq2 : m2 q = m q := by rw [p2.1 q (by omega), g1 q (by omega) (by omega) (by omega) (by omega) (by omega)]
  have head : ∀ R, lm_rn sc (d + 6) lm_m78.2.2.2.2.1 (lm_reg lm_m78.2.2.2.2.2) (83, [(0, .ref 203), (1, .ref q), (2, .int (Int32.ofNat a)), (3, .ref t), (4, .ref 263), (5, .int (Int32.ofNat f)), (7, .int (Int32.ofNat i)), (8, .int (Int32.ofNat 0))], []) (lm_w m2 n1 x) = some R → lm_rn sc (d + 6) lm_m78.2.2.2.2.1 (lm_reg lm_m78.2.2.2.2.2) (61, [(0, .ref 203), (1, .ref q), (2, .int (Int32.ofNat a)), (3, .ref t), (4, .ref 263), (5, .int (Int32.ofNat f)), (6, .int (Int32.ofNat (du * (256 * i)))), (7, .int (Int32.ofNat i))], []) (lm_w m1 n1 x) = some R := by
    intro R K
    refine lm_e78_61 ?_
    unfold lm_q78_61
    repeat (first
    | ((with_reducible apply lm_sI); exact rfl)
    | ((with_reducible apply lm_sR); exact rfl)
    | ((with_reducible apply lm_sS); exact rfl; exact rfl)
    | ((with_reducible apply lm_sL); exact rfl)
    | ((with_reducible apply lm_sP); exact rfl; exact rfl)
    | ((with_reducible apply lm_sPL); exact rfl; exact rfl)
    | ((with_reducible apply lm_sAA); exact rfl; exact rfl)
    | ((with_reducible apply lm_sA); (first | exact rfl | assumption); omega)
    | ((with_reducible apply lm_sJ); (first | exact rfl | assumption); omega)
    | ((with_reducible apply lm_sB); (first | exact rfl | assumption); omega)
    | ((with_reducible apply lm_wA); (first | exact rfl | assumption); omega)
    | ((with_reducible apply lm_wJ); (first | exact rfl | assumption); omega)
    | ((with_reducible apply lm_wB); (first | exact rfl | assumption); omega)
    | ((with_reducible apply lm_sAl); (first | exact rfl | assumption); omega)
    | ((with_reducible apply lm_iW); decide))
    simp only [Nat.reduceDiv, Nat.reduceMod]
    rw [h1.2.1]
    refine lm_geF (by omega) (by omega) (by omega) ?_
    rw [lm_K10, lm_K0]
    repeat (first
    | ((with_reducible apply lm_sI); exact rfl)
    | ((with_reducible apply lm_sR); exact rfl)
    | ((with_reducible apply lm_sS); exact rfl; exact rfl)
    | ((with_reducible apply lm_sL); exact rfl)
    | ((with_reducible apply lm_sP); exact rfl; exact rfl)
    | ((with_reducible apply lm_sPL); exact rfl; exact rfl)
    | ((with_reducible apply lm_sAA); exact rfl; exact rfl)
    | ((with_reducible apply lm_sA); (first | exact rfl | assumption); omega)
    | ((with_reducible apply lm_sJ); (first | exact rfl | assumption); omega)
    | ((with_reducible apply lm_sB); (first | exact rfl | assumption); omega)
    | ((with_reducible apply lm_wA); (first | exact rfl | assumption); omega)
    | ((with_reducible apply lm_wJ); (first | exact rfl | assumption); omega)
    | ((with_reducible apply lm_wB); (first | exact rfl | assumption); omega)
    | ((with_reducible apply lm_sAl); (first | exact rfl | assumption); omega)
    | ((with_reducible apply lm_iW); decide))
    refine lm_cV c2 ?_
    exact K
  have fr2 : ∀ r, r ≠ 203 → r ≠ 227 → (r < 243 ∨ 245 < r) → r ≠ 264 → r ≠ 266 → m2 r = m r := fun r r1 r2 r3 r4 r5 => by rw [p2.1 r (by omega), g1 r r1 r2 r3 r4 r5]
  rcases lm_l78b (sc := sc) (d := d) (x := x) (m := m2) (n := n1) (P := P) (q := q) (v := v) (a := a) (t := t) (s := 263) (f := f) (i := i) h2 hk hi hq hv hav (by omega) (fun j hj c hc => by rw [fr2 _ (by omega) (by omega) (by omega) (by omega) (by omega)]; exact hV j hj c hc) p2.2 with ⟨m3, n3, ⟨a1, a2, a3, a4⟩, k3⟩ | ⟨R, ⟨m3, n3, eR, a1, a2, i', j', hi', hj', hn⟩, k3⟩
  · rw [eq2] at a3 a4
    have h3 : lm_RK0 C k e m3 n3 := h2.keep a2 (a1 221 (by decide) (by decide) (by decide) (by decide)) (a1 231 (by decide) (by decide) (by decide) (by decide))
    obtain ⟨m4, n4, m5, n5, c4, c5, b1, b2, b3, b4, b5⟩ := lm_l78n (sc := sc) (d := d) (x := x) (P := P) (num := k + i) (f := f) (m := m3) (n := n3) (p := 0) h3 (fun i hi => by rw [a1 263 (by decide) (by decide) (by decide) (by decide), fr2 263 (by decide) (by decide) (by decide) (by decide) (by decide)]; exact hP i hi) hf a4 (lm_apr_rg (fun c _ => by show 0 ≤ (0 : Int) ∧ (0 : Int) ≤ 4095; decide) k)
    have e34 : m5 203 34 = Int32.ofNat du := by rw [b2.1 34 (by decide) (by decide) (by decide), a2.1 34 (by decide) (by decide) (by decide), p2.1 203 (by decide), g2.1 34 (by decide) (by decide) (by decide) (by decide)]; exact h34
    have fr5 : ∀ r, r ≠ 203 → r ≠ 227 → (r < 243 ∨ 245 < r) → r ≠ 264 → r ≠ 266 → m5 r = m r := fun r r1 r2 r3 r4 r5 => by rw [b1 r r1 r2 r4 (by omega) (by omega), a1 r r1 r2 (by omega) (by omega), fr2 r r1 r2 r3 r4 r5]
    have e266 : m5 266 = m1 266 := by rw [b1 266 (by decide) (by decide) (by decide) (by decide) (by decide), a1 266 (by decide) (by decide) (by decide) (by decide), p2.1 266 (by decide)]
    obtain ⟨m6, d1, d2, d3, d4, k6⟩ := lm_l78c (sc := sc) (d := d) (q := q) (t := t) (s := 263) (f := f) (at' := Int32.ofNat a) (n := n5) (x := x) (m := lm_u m5 203 24 (Int32.ofNat (du * (256 * i)))) (C := C) (P := P) (e := e) (k := k) (du := du) (dv := dv) (A := fun i j => lm_kAi C (m q) (a + 384 * k) i j) (T := T) (b := b) (i := i) (G := lm_un (lm_apr (fun _ => 0) (fun j => lm_kAi C (m q) (a + 384 * k) i j) (fun j => lm_kS C P 32 e j) k)) (N := lm_kno C P 32 2 (k + i)) hk hi (by rw [lm_u_ne (by decide)]; exact e34) hdu1 hdu (fun c hc => by rw [lm_u_row (by decide)]; exact b4 c hc) (fun c hc => by rw [lm_u_row (by decide)]; exact b5 c hc) (fun c hc => by
      have := lm_eZ_of (C := C) (P := P) (num := k + i) (bb := fun _ => 0) (lm_apc_cg (S := fun _ => 0) (S' := fun _ => 0) (F := fun j => lm_kAi C (m q) (a + 384 * k) i j) (F' := fun j => lm_kAi C (m q) (a + 384 * k) i j) (H := fun j => lm_kS C P 32 e j) (H' := fun j => lm_kS C P 32 e j) (fun _ => ln_cg.rf) (fun _ _ => ln_cg.rf) (fun _ _ => ln_cg.rf) k) c
      rw [lm_ex1.1] at this
      rw [show ∀ z : Int, z + ((0 : Nat) : Int) = z from fun z => Int.add_zero z] at this
      exact this) lm_u_eq (by
      unfold lm_PB
      rw [lm_u_row (by decide), e266]
      exact g3)
    refine Or.inl ⟨m6, n5, ⟨fun r r1 r2 r3 r4 r5 => ?_, ?_, d4, fun i' j' hi' hj' => ?_⟩, fun R K => head R (k3 R (lm_e78_83 ?_))⟩
    · rw [d1 r r1 r5, lm_u_row r1, fr5 r r1 r2 r3 r4 r5]
    · exact g2.tr ((lm_fB.of (p2.1 203 (by decide))).tr (a2.B.tr (b2.B.tr ((lm_fB.p fun j hj => lm_u_ne (fun g => hj g.2)).tr (.p d2)))))
    · by_cases ci : i' = i
      · subst ci
        exact a3 j' hj'
      · exact g4 i' j' (by omega) hj'
    · have e324 : m4 203 32 = Int32.ofNat k := by rw [b3]; exact h3.2.1
      clear a3 g4
      unfold lm_q78_83
      repeat (first
    | ((with_reducible apply lm_sI); exact rfl)
    | ((with_reducible apply lm_sR); exact rfl)
    | ((with_reducible apply lm_sS); exact rfl; exact rfl)
    | ((with_reducible apply lm_sL); exact rfl)
    | ((with_reducible apply lm_sP); exact rfl; exact rfl)
    | ((with_reducible apply lm_sPL); exact rfl; exact rfl)
    | ((with_reducible apply lm_sAA); exact rfl; exact rfl)
    | ((with_reducible apply lm_sA); (first | exact rfl | assumption); omega)
    | ((with_reducible apply lm_sJ); (first | exact rfl | assumption); omega)
    | ((with_reducible apply lm_sB); (first | exact rfl | assumption); omega)
    | ((with_reducible apply lm_wA); (first | exact rfl | assumption); omega)
    | ((with_reducible apply lm_wJ); (first | exact rfl | assumption); omega)
    | ((with_reducible apply lm_wB); (first | exact rfl | assumption); omega)
    | ((with_reducible apply lm_sAl); (first | exact rfl | assumption); omega)
    | ((with_reducible apply lm_iW); decide))
      simp only [Nat.reduceDiv, Nat.reduceMod]
      rw [h3.2.1]
      refine lm_geT (by omega) (by omega) (by omega) ?_
      rw [lm_K10, lm_K12]
      repeat (first
    | ((with_reducible apply lm_sI); exact rfl)
    | ((with_reducible apply lm_sR); exact rfl)
    | ((with_reducible apply lm_sS); exact rfl; exact rfl)
    | ((with_reducible apply lm_sL); exact rfl)
    | ((with_reducible apply lm_sP); exact rfl; exact rfl)
    | ((with_reducible apply lm_sPL); exact rfl; exact rfl)
    | ((with_reducible apply lm_sAA); exact rfl; exact rfl)
    | ((with_reducible apply lm_sA); (first | exact rfl | assumption); omega)
    | ((with_reducible apply lm_sJ); (first | exact rfl | assumption); omega)
    | ((with_reducible apply lm_sB); (first | exact rfl | assumption); omega)
    | ((with_reducible apply lm_wA); (first | exact rfl | assumption); omega)
    | ((with_reducible apply lm_wJ); (first | exact rfl | assumption); omega)
    | ((with_reducible apply lm_wB); (first | exact rfl | assumption); omega)
    | ((with_reducible apply lm_sAl); (first | exact rfl | assumption); omega)
    | ((with_reducible apply lm_iW); decide))
      refine lm_cV c4 ?_
      repeat (first
    | ((with_reducible apply lm_sI); exact rfl)
    | ((with_reducible apply lm_sR); exact rfl)
    | ((with_reducible apply lm_sS); exact rfl; exact rfl)
    | ((with_reducible apply lm_sL); exact rfl)
    | ((with_reducible apply lm_sP); exact rfl; exact rfl)
    | ((with_reducible apply lm_sPL); exact rfl; exact rfl)
    | ((with_reducible apply lm_sAA); exact rfl; exact rfl)
    | ((with_reducible apply lm_sA); (first | exact rfl | assumption); omega)
    | ((with_reducible apply lm_sJ); (first | exact rfl | assumption); omega)
    | ((with_reducible apply lm_sB); (first | exact rfl | assumption); omega)
    | ((with_reducible apply lm_wA); (first | exact rfl | assumption); omega)
    | ((with_reducible apply lm_wJ); (first | exact rfl | assumption); omega)
    | ((with_reducible apply lm_wB); (first | exact rfl | assumption); omega)
    | ((with_reducible apply lm_sAl); (first | exact rfl | assumption); omega)
    | ((with_reducible apply lm_iW); decide))
      simp only [Nat.reduceDiv, Nat.reduceMod]
      rw [e324, lm_oo, lm_K2]
      refine lm_cV c5 ?_
      repeat (first
    | ((with_reducible apply lm_sI); exact rfl)
    | ((with_reducible apply lm_sR); exact rfl)
    | ((with_reducible apply lm_sS); exact rfl; exact rfl)
    | ((with_reducible apply lm_sL); exact rfl)
    | ((with_reducible apply lm_sP); exact rfl; exact rfl)
    | ((with_reducible apply lm_sPL); exact rfl; exact rfl)
    | ((with_reducible apply lm_sAA); exact rfl; exact rfl)
    | ((with_reducible apply lm_sA); (first | exact rfl | assumption); omega)
    | ((with_reducible apply lm_sJ); (first | exact rfl | assumption); omega)
    | ((with_reducible apply lm_sB); (first | exact rfl | assumption); omega)
    | ((with_reducible apply lm_wA); (first | exact rfl | assumption); omega)
    | ((with_reducible apply lm_wJ); (first | exact rfl | assumption); omega)
    | ((with_reducible apply lm_wB); (first | exact rfl | assumption); omega)
    | ((with_reducible apply lm_sAl); (first | exact rfl | assumption); omega)
    | ((with_reducible apply lm_iW); decide))
      simp only [Nat.reduceDiv, Nat.reduceMod]
      rw [e34, lm_K256, lm_om, lm_om, lm_K0, show 256 * du * i = du * (256 * i) by rw [Nat.mul_comm 256 du, Nat.mul_assoc]]
      refine k6 R (lm_e78_206 ?_)
      unfold lm_q78_206
      rw [lm_K256]
      refine lm_geT (by omega) (by omega) (by omega) ?_
      repeat (first
    | ((with_reducible apply lm_sI); exact rfl)
    | ((with_reducible apply lm_sR); exact rfl)
    | ((with_reducible apply lm_sS); exact rfl; exact rfl)
    | ((with_reducible apply lm_sL); exact rfl)
    | ((with_reducible apply lm_sP); exact rfl; exact rfl)
    | ((with_reducible apply lm_sPL); exact rfl; exact rfl)
    | ((with_reducible apply lm_sAA); exact rfl; exact rfl)
    | ((with_reducible apply lm_sA); (first | exact rfl | assumption); omega)
    | ((with_reducible apply lm_sJ); (first | exact rfl | assumption); omega)
    | ((with_reducible apply lm_sB); (first | exact rfl | assumption); omega)
    | ((with_reducible apply lm_wA); (first | exact rfl | assumption); omega)
    | ((with_reducible apply lm_wJ); (first | exact rfl | assumption); omega)
    | ((with_reducible apply lm_wB); (first | exact rfl | assumption); omega)
    | ((with_reducible apply lm_sAl); (first | exact rfl | assumption); omega)
    | ((with_reducible apply lm_iW); decide))
      simp only [Nat.reduceDiv, Nat.reduceMod]
      rw [d3, lm_K1, lm_oo]
      exact K
  · rw [eq2] at hn
    refine Or.inr ⟨R, ⟨m3, n3, eR, fun r r1 r2 r3 r4 r5 => ?_, ?_, i', j', hi', hj', hn⟩, head R k3⟩
    · rw [a1 r r1 r2 r3 r4 r5, fr2 r r1 r2 r3 r4 r5]
    · exact g2.tr ((lm_fB.of (p2.1 203 (by decide))).tr a2)
end LMRQ
