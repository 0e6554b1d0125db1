/-! ===== encrypt of the reference, second part ===== -/
theorem lm_ctS_u {C : lm_CX} {P : Nat → Int32} {e k du dv : Nat} {A : Nat → Nat → Nat → Int} {T : Nat → Nat → Int} {b : Nat → Nat} {i c κ : Nat} (hdu : 0 < du) (hi : i < k) (hc : c < 256) (hκ : κ < du) : lm_ctS C P e k du dv A T b (du * (256 * i + c) + κ) = (lm_eU C P e k du A i c).toNat.testBit κ := by
  have h1 : du * (256 * i + c + 1) ≤ du * (256 * k) := Nat.mul_le_mul_left _ (by omega)
  have h2 : 256 * du * k = du * (256 * k) := by rw [Nat.mul_comm 256 du, Nat.mul_assoc]
  rw [Nat.mul_succ] at h1
  unfold lm_ctS
  rw [if_pos (by omega)]
  unfold lm_ts
  rw [Nat.mul_add_div hdu, Nat.div_eq_of_lt hκ, Nat.add_zero, Nat.mul_add_mod, Nat.mod_eq_of_lt hκ, lm_Fg_at hc]
theorem lm_ctS_v {C : lm_CX} {P : Nat → Int32} {e k du dv : Nat} {A : Nat → Nat → Nat → Int} {T : Nat → Nat → Int} {b : Nat → Nat} {c κ : Nat} (hdv : 0 < dv) (hc : c < 256) (hκ : κ < dv) : lm_ctS C P e k du dv A T b (256 * du * k + dv * c + κ) = (lm_eV C P e k dv T b 0 c).toNat.testBit κ := by
  unfold lm_ctS
  rw [if_neg (by omega), show 256 * du * k + dv * c + κ - 256 * du * k = dv * c + κ by omega]
  unfold lm_ts
  rw [Nat.mul_add_div hdv, Nat.div_eq_of_lt hκ, Nat.add_zero, Nat.mul_add_mod, Nat.mod_eq_of_lt hκ]
  have := lm_Fg_at (F := lm_eV C P e k dv T b) (i := 0) hc
  rw [Nat.mul_zero, Nat.zero_add] at this
  rw [this]
theorem lm_T12_sh {K : Nat → Int32} {a j c : Nat} : ln_bv (ln_bt (fun t => K (a + t))) (3072 * j + 12 * c) 12 = ln_bv (ln_bt (fun t => K (a + 384 * j + t))) (c * 12) 12 := by
  refine lm_bv_ext fun u hu => ?_
  unfold ln_bt
  dsimp only
  rw [show (3072 * j + 12 * c + u) / 8 = 384 * j + (c * 12 + u) / 8 by omega, show (3072 * j + 12 * c + u) % 8 = (c * 12 + u) % 8 by omega, Nat.add_assoc]
section LMRY
variable {sc : lm_H} {C : lm_CX} {d k e du dv q v a t w s f z : Nat} {m m0 : lm_MI} {n n0 : lm_ML} {x : lm_H × Nat × Nat} {P : Nat → Int32} {A : Nat → Nat → Nat → Int} {T : Nat → Nat → Int} {b : Nat → Nat}
/-- one polynomial of U -/
theorem lm_l78c {i : Nat} {G N : Nat → Int} {at' : Int32} (hk : k ≤ 4) (hi : i < k) (h34 : m 203 34 = Int32.ofNat du) (hdu1 : 1 ≤ du) (hdu : du ≤ 11) (hG : ∀ c, c < 256 → m 243 c = Int32.ofInt (G c % 3329)) (hN : ∀ c, c < 256 → m 245 c = Int32.ofInt (N c % 3329)) (hZ : ∀ c, c < 256 → (G c % 3329 + N c % 3329) % 3329 = lm_eZ C P (k + i) (lm_eW C P e k (A i)) (fun _ => 0) c) (hT : m 203 24 = Int32.ofNat (du * (256 * i))) (hB : lm_PB m 266 0 (du * (256 * i)) (lm_ctS C P e k du dv A T b)) : ∃ m', (∀ r, r ≠ 203 → r ≠ 266 → m' r = m r) ∧ (∀ j, j ≠ 24 → m' 203 j = m 203 j) ∧ m' 203 24 = Int32.ofNat (du * (256 * (i + 1))) ∧ lm_PB m' 266 0 (du * (256 * (i + 1))) (lm_ctS C P e k du dv A T b) ∧ ∀ R, lm_rn sc (d + 6) lm_m78.2.2.2.2.1 (lm_reg lm_m78.2.2.2.2.2) (206, [(0, .ref 203), (1, .ref q), (2, .int at'), (3, .ref t), (4, .ref s), (5, .int (Int32.ofNat f)), (7, .int (Int32.ofNat i)), (8, .int (Int32.ofNat 256))], []) (lm_w m' n x) = some R → lm_rn sc (d + 6) lm_m78.2.2.2.2.1 (lm_reg lm_m78.2.2.2.2.2) (206, [(0, .ref 203), (1, .ref q), (2, .int at'), (3, .ref t), (4, .ref s), (5, .int (Int32.ofNat f)), (7, .int (Int32.ofNat i)), (8, .int (Int32.ofNat 0))], []) (lm_w m n x) = some R := by
  obtain ⟨m', n', ⟨en, h1, h2, h3, h4⟩, k1⟩ := lm_lp (sc := sc) (d := d + 6) (b := 256) (hs := lm_m78.2.2.2.2.1) (code := lm_reg lm_m78.2.2.2.2.2) (x := x) (fr := fun c => (206, [(0, .ref 203), (1, .ref q), (2, .int at'), (3, .ref t), (4, .ref s), (5, .int (Int32.ofNat f)), (7, .int (Int32.ofNat i)), (8, .int (Int32.ofNat c))], [])) (I := fun c m' n' => n' = n ∧ (∀ r, r ≠ 203 → r ≠ 266 → m' r = m r) ∧ (∀ j, j ≠ 24 → m' 203 j = m 203 j) ∧ m' 203 24 = Int32.ofNat (du * (256 * i + c)) ∧ lm_PB m' 266 0 (du * (256 * i + c)) (lm_ctS C P e k du dv A T b)) (fun c hc m1 n1 ⟨en, h1, h2, h3, h4⟩ => by
    have hp := lm_p12 hdu
    have hlt := lm_co_lt (d := du) (x := (lm_eZ C P (k + i) (lm_eW C P e k (A i)) (fun _ => 0) c).toNat)
    have hT2 : du * (256 * i + c) ≤ 11 * 1024 := Nat.mul_le_mul hdu (by omega)
    obtain ⟨m2, c2, p2, t2, f2, g2, o2⟩ := lm_u74 (sc := sc) (e := d + 5) (m := m1) (n := n1) (x := x) (q := 266) (v := 8192) (a := 0) (d := du) (w := Int32.ofNat (lm_co du (lm_eZ C P (k + i) (lm_eW C P e k (A i)) (fun _ => 0) c).toNat)) rfl (by decide) (by decide) h3 (by omega) (by decide) (by omega) h4 (fun κ hκ => by
      rw [lm_nb (by omega), lm_ctS_u hdu1 hi hc hκ]
      unfold lm_eU
      rw [Int.toNat_natCast])
    rw [← Nat.mul_succ] at p2 t2
    refine ⟨m2, n1, ⟨en, fun r r1 r2 => (f2 r r1 r2).trans (h1 r r1 r2), fun j hj => (g2 j hj).trans (h2 j hj), t2, p2⟩, fun R K => lm_e78_206 ?_⟩
    have g0 := lm_m3329 (G c)
    have n0 := lm_m3329 (N c)
    have hz : Int32.ofInt (lm_eZ C P (k + i) (lm_eW C P e k (A i)) (fun _ => 0) c) = Int32.ofNat (lm_eZ C P (k + i) (lm_eW C P e k (A i)) (fun _ => 0) c).toNat := by
      rw [← hZ c hc, lm_oN, Int.toNat_of_nonneg (lm_m3329 _).1]
    have e34 : m1 203 34 = Int32.ofNat du := by rw [h2 34 (by decide)]; exact h34
    unfold lm_q78_206
    rw [lm_K256, lm_K10, lm_K0, lm_K12]
    refine lm_geF (by omega) (by omega) (by omega) ?_
    repeat (first
    | ((with_reducible apply lm_sI); exact rfl)
    | ((with_reducible apply lm_sR); exact rfl)
    | ((with_reducible apply lm_sS); exact rfl; exact rfl)
    | ((with_reducible apply lm_sL); exact rfl)
    | ((with_reducible apply lm_sP); exact rfl; exact rfl)
    | ((with_reducible apply lm_sPL); exact rfl; exact rfl)
    | ((with_reducible apply lm_sAA); exact rfl; exact rfl)
    | ((with_reducible apply lm_sA); (first | exact rfl | assumption); omega)
    | ((with_reducible apply lm_sJ); (first | exact rfl | assumption); omega)
    | ((with_reducible apply lm_sB); (first | exact rfl | assumption); omega)
    | ((with_reducible apply lm_wA); (first | exact rfl | assumption); omega)
    | ((with_reducible apply lm_wJ); (first | exact rfl | assumption); omega)
    | ((with_reducible apply lm_wB); (first | exact rfl | assumption); omega)
    | ((with_reducible apply lm_sAl); (first | exact rfl | assumption); omega)
    | ((with_reducible apply lm_iW); decide))
    simp only [Nat.reduceDiv, Nat.reduceMod]
    rw [h1 243 (by decide) (by decide), h1 245 (by decide) (by decide), hG c hc, hN c hc, lm_iA, lm_iR (by omega) (by omega) (by decide) (by decide), Int.tmod_eq_emod_of_nonneg (by omega), hZ c hc, hz, e34]
    refine lm_cI (lm_u84 (e := d + 5) hdu lm_eZ_lt) ?_
    repeat (first
    | ((with_reducible apply lm_sI); exact rfl)
    | ((with_reducible apply lm_sR); exact rfl)
    | ((with_reducible apply lm_sS); exact rfl; exact rfl)
    | ((with_reducible apply lm_sL); exact rfl)
    | ((with_reducible apply lm_sP); exact rfl; exact rfl)
    | ((with_reducible apply lm_sPL); exact rfl; exact rfl)
    | ((with_reducible apply lm_sAA); exact rfl; exact rfl)
    | ((with_reducible apply lm_sA); (first | exact rfl | assumption); omega)
    | ((with_reducible apply lm_sJ); (first | exact rfl | assumption); omega)
    | ((with_reducible apply lm_sB); (first | exact rfl | assumption); omega)
    | ((with_reducible apply lm_wA); (first | exact rfl | assumption); omega)
    | ((with_reducible apply lm_wJ); (first | exact rfl | assumption); omega)
    | ((with_reducible apply lm_wB); (first | exact rfl | assumption); omega)
    | ((with_reducible apply lm_sAl); (first | exact rfl | assumption); omega)
    | ((with_reducible apply lm_iW); decide))
    simp only [Nat.reduceDiv, Nat.reduceMod]
    rw [e34]
    refine lm_cV c2 ?_
    rw [lm_K1, lm_oo]
    exact K) 256 0 (by omega) m n ⟨rfl, fun _ _ _ => rfl, fun _ _ => rfl, hT, hB⟩
  subst en
  exact ⟨m', h1, h2, h3, h4, k1⟩
/-- the key's polynomial j out of its bits -/
theorem lm_l78d {j : Nat} {x6 : Int32} (hj : j < 4) (hq : lm_ar q = some (1, v)) (hv : v ≤ 70000) (hav : a + 1536 ≤ v) (hq2 : q ≠ 203 ∧ q ≠ 244) (hT : m 203 24 = Int32.ofNat (3072 * j)) : ∃ m', (∀ r, r ≠ 203 → r ≠ 244 → m' r = m r) ∧ (∀ i, i ≠ 24 → m' 203 i = m 203 i) ∧ (∀ c, c < 256 → m' 244 c = Int32.ofInt (lm_T12 (m q) a j c % 3329)) ∧ ∀ R, lm_rn sc (d + 6) lm_m78.2.2.2.2.1 (lm_reg lm_m78.2.2.2.2.2) (312, [(0, .ref 203), (1, .ref q), (2, .int (Int32.ofNat a)), (3, .ref t), (4, .ref s), (5, .int (Int32.ofNat f)), (6, .int x6), (7, .int (Int32.ofNat j)), (8, .int (Int32.ofNat 256))], []) (lm_w m' n x) = some R → lm_rn sc (d + 6) lm_m78.2.2.2.2.1 (lm_reg lm_m78.2.2.2.2.2) (312, [(0, .ref 203), (1, .ref q), (2, .int (Int32.ofNat a)), (3, .ref t), (4, .ref s), (5, .int (Int32.ofNat f)), (6, .int x6), (7, .int (Int32.ofNat j)), (8, .int (Int32.ofNat 0))], []) (lm_w m n x) = some R := by
  obtain ⟨m', n', ⟨en, h1, h2, h3, h4⟩, k1⟩ := lm_lp (sc := sc) (d := d + 6) (b := 256) (hs := lm_m78.2.2.2.2.1) (code := lm_reg lm_m78.2.2.2.2.2) (x := x) (fr := fun c => (312, [(0, .ref 203), (1, .ref q), (2, .int (Int32.ofNat a)), (3, .ref t), (4, .ref s), (5, .int (Int32.ofNat f)), (6, .int x6), (7, .int (Int32.ofNat j)), (8, .int (Int32.ofNat c))], [])) (I := fun c m' n' => n' = n ∧ (∀ r, r ≠ 203 → r ≠ 244 → m' r = m r) ∧ (∀ i, i ≠ 24 → m' 203 i = m 203 i) ∧ m' 203 24 = Int32.ofNat (3072 * j + 12 * c) ∧ ∀ i, i < c → m' 244 i = Int32.ofInt (lm_T12 (m q) a j i % 3329)) (fun c hc m1 n1 ⟨en, h1, h2, h3, h4⟩ => by
    have c2 := lm_u77 (sc := sc) (e := d + 4) (m := m1) (n := n1) (x := x) (q := q) (v := v) (a := a) (d := 12) hq hv h3 (by omega) (by omega) (by decide)
    have hlt := lm_bv_lt (s := ln_bt (fun t => m q (a + 384 * j + t))) (a := c * 12) (d := 12)
    rw [h1 q hq2.1 hq2.2, lm_T12_sh] at c2
    refine ⟨lm_u (lm_u m1 203 24 (Int32.ofNat (3072 * j + 12 * c + 12))) 244 c (Int32.ofInt (lm_T12 (m q) a j c % 3329)), n1, ⟨en, fun r r1 r2 => by rw [lm_u_row r2, lm_u_row r1]; exact h1 r r1 r2, fun i hi => by rw [lm_u_row (by decide), lm_u_ne (fun g => hi g.2)]; exact h2 i hi, by rw [lm_u_row (by decide), lm_u_eq, Nat.mul_succ, Nat.add_assoc], fun i hi => ?_⟩, fun R K => lm_e78_312 ?_⟩
    · by_cases c0 : i = c
      · subst c0; rw [lm_u_eq]
      · rw [lm_u_ne (by omega), lm_u_row (by decide)]
        exact h4 i (by omega)
    · unfold lm_q78_312
      rw [lm_K256, lm_K12, lm_K11]
      refine lm_geF (by omega) (by omega) (by omega) ?_
      repeat (first
    | ((with_reducible apply lm_sI); exact rfl)
    | ((with_reducible apply lm_sR); exact rfl)
    | ((with_reducible apply lm_sS); exact rfl; exact rfl)
    | ((with_reducible apply lm_sL); exact rfl)
    | ((with_reducible apply lm_sP); exact rfl; exact rfl)
    | ((with_reducible apply lm_sPL); exact rfl; exact rfl)
    | ((with_reducible apply lm_sAA); exact rfl; exact rfl)
    | ((with_reducible apply lm_sA); (first | exact rfl | assumption); omega)
    | ((with_reducible apply lm_sJ); (first | exact rfl | assumption); omega)
    | ((with_reducible apply lm_sB); (first | exact rfl | assumption); omega)
    | ((with_reducible apply lm_wA); (first | exact rfl | assumption); omega)
    | ((with_reducible apply lm_wJ); (first | exact rfl | assumption); omega)
    | ((with_reducible apply lm_wB); (first | exact rfl | assumption); omega)
    | ((with_reducible apply lm_sAl); (first | exact rfl | assumption); omega)
    | ((with_reducible apply lm_iW); decide))
      refine lm_cI c2 ?_
      repeat (first
    | ((with_reducible apply lm_sI); exact rfl)
    | ((with_reducible apply lm_sR); exact rfl)
    | ((with_reducible apply lm_sS); exact rfl; exact rfl)
    | ((with_reducible apply lm_sL); exact rfl)
    | ((with_reducible apply lm_sP); exact rfl; exact rfl)
    | ((with_reducible apply lm_sPL); exact rfl; exact rfl)
    | ((with_reducible apply lm_sAA); exact rfl; exact rfl)
    | ((with_reducible apply lm_sA); (first | exact rfl | assumption); omega)
    | ((with_reducible apply lm_sJ); (first | exact rfl | assumption); omega)
    | ((with_reducible apply lm_sB); (first | exact rfl | assumption); omega)
    | ((with_reducible apply lm_wA); (first | exact rfl | assumption); omega)
    | ((with_reducible apply lm_wJ); (first | exact rfl | assumption); omega)
    | ((with_reducible apply lm_wB); (first | exact rfl | assumption); omega)
    | ((with_reducible apply lm_sAl); (first | exact rfl | assumption); omega)
    | ((with_reducible apply lm_iW); decide))
      rw [lm_K3329, lm_orm (by omega) (by omega), lm_oN (_ % 3329), lm_K1, lm_oo, Int.natCast_emod]
      exact K) 256 0 (by omega) m n ⟨rfl, fun _ _ _ => rfl, fun _ _ => rfl, hT, fun i hi => absurd hi (by omega)⟩
  subst en
  exact ⟨m', h1, h2, h4, k1⟩
/-- the sum of the key's polynomials -/
theorem lm_l78e {x6 : Int32} (h : lm_RK0 C k e m n) (hk : k ≤ 4) (hq : lm_ar q = some (1, v)) (hv : v ≤ 70000) (hav : a + 1536 ≤ v) (hq2 : q ≠ 203 ∧ q ≠ 243 ∧ q ≠ 244) (hV : ∀ j, j < k → ∀ c, c < 256 → m (233 + j) c = Int32.ofInt (lm_kS C P 32 e j c)) (hS : ∀ c, c < 256 → m 243 c = Int32.ofInt 0) : ∃ m', (∀ r, r ≠ 203 → r ≠ 243 → r ≠ 244 → m' r = m r) ∧ (∀ i, i ≠ 24 → m' 203 i = m 203 i) ∧ (∀ c, c < 256 → m' 243 c = Int32.ofInt (lm_apr (fun _ => 0) (fun j c => lm_T12 (m q) a j c % 3329) (fun j => lm_kS C P 32 e j) k c)) ∧ ∀ R, lm_rn sc (d + 6) lm_m78.2.2.2.2.1 (lm_reg lm_m78.2.2.2.2.2) (290, [(0, .ref 203), (1, .ref q), (2, .int (Int32.ofNat a)), (3, .ref t), (4, .ref s), (5, .int (Int32.ofNat f)), (6, .int x6), (7, .int (Int32.ofNat k))], []) (lm_w m' n x) = some R → lm_rn sc (d + 6) lm_m78.2.2.2.2.1 (lm_reg lm_m78.2.2.2.2.2) (290, [(0, .ref 203), (1, .ref q), (2, .int (Int32.ofNat a)), (3, .ref t), (4, .ref s), (5, .int (Int32.ofNat f)), (6, .int x6), (7, .int (Int32.ofNat 0))], []) (lm_w m n x) = some R := by
  obtain ⟨m', n', ⟨en, h1, h2, h3⟩, k1⟩ := lm_lp (sc := sc) (d := d + 6) (b := k) (hs := lm_m78.2.2.2.2.1) (code := lm_reg lm_m78.2.2.2.2.2) (x := x) (fr := fun j => (290, [(0, .ref 203), (1, .ref q), (2, .int (Int32.ofNat a)), (3, .ref t), (4, .ref s), (5, .int (Int32.ofNat f)), (6, .int x6), (7, .int (Int32.ofNat j))], [])) (I := fun j m' n' => n' = n ∧ (∀ r, r ≠ 203 → r ≠ 243 → r ≠ 244 → m' r = m r) ∧ (∀ i, i ≠ 24 → m' 203 i = m 203 i) ∧ ∀ c, c < 256 → m' 243 c = Int32.ofInt (lm_apr (fun _ => 0) (fun j c => lm_T12 (m q) a j c % 3329) (fun j => lm_kS C P 32 e j) j c)) (fun j hj m1 n1 ⟨en, h1, h2, h3⟩ => by
    subst en
    have eq1 : m1 q = m q := h1 q hq2.1 hq2.2.1 hq2.2.2
    obtain ⟨m2, a1, a2, a3, k2⟩ := lm_l78d (sc := sc) (d := d) (q := q) (v := v) (a := a) (t := t) (s := s) (f := f) (x6 := x6) (n := n1) (x := x) (m := lm_u m1 203 24 (Int32.ofNat (3072 * j))) (j := j) (by omega) hq hv hav ⟨hq2.1, hq2.2.2⟩ lm_u_eq
    rw [lm_u_row hq2.1, eq1] at a3
    have r2 : ∀ r, r ≠ 203 → r ≠ 244 → m2 r = m1 r := fun r r1 r2 => by rw [a1 r r1 r2, lm_u_row r1]
    have hk1 : m1 203 32 = Int32.ofNat k := by rw [h2 32 (by decide)]; exact h.2.1
    obtain ⟨m3, c3, p3⟩ := lm_u73 (sc := sc) (d := d + 4) (n := n1) (x := x) (m0 := m2) (m := m2) (i0 := 243) (f := 244) (g := 233 + j) (S := lm_apr (fun _ => 0) (fun j c => lm_T12 (m q) a j c % 3329) (fun j => lm_kS C P 32 e j) j) (F := fun c => lm_T12 (m q) a j c % 3329) (H := lm_kS C P 32 e j) rfl rfl (lm_arF j (by omega)) (by decide) (by omega) (by decide) (fun t ht => by rw [r2 231 (by decide) (by decide), h1 231 (by decide) (by decide) (by decide)]; exact h.2.2.2 t ht) ⟨fun _ _ => rfl, fun c hc => by rw [r2 243 (by decide) (by decide)]; exact h3 c hc⟩ a3 (fun t ht => by rw [r2 _ (by omega) (by omega), h1 _ (by omega) (by omega) (by omega)]; exact hV j hj t ht) (lm_apr_rg (fun c _ => by show 0 ≤ (0 : Int) ∧ (0 : Int) ≤ 4095; decide) j) (fun c _ => by
      have := lm_m3329 (lm_T12 (m q) a j c)
      show 0 ≤ lm_T12 (m q) a j c % 3329 ∧ lm_T12 (m q) a j c % 3329 ≤ 4095
      omega) (lm_kS_rg.le (by decide))
    refine ⟨m3, n1, ⟨rfl, fun r q1 q2 q3 => by rw [p3.1 r q2, r2 r q1 q3, h1 r q1 q2 q3], fun i hi => by rw [p3.1 203 (by decide), a2 i hi, lm_u_ne (fun g => hi g.2), h2 i hi], p3.2⟩, fun R K => lm_e78_290 ?_⟩
    unfold lm_q78_290
    repeat (first
    | ((with_reducible apply lm_sI); exact rfl)
    | ((with_reducible apply lm_sR); exact rfl)
    | ((with_reducible apply lm_sS); exact rfl; exact rfl)
    | ((with_reducible apply lm_sL); exact rfl)
    | ((with_reducible apply lm_sP); exact rfl; exact rfl)
    | ((with_reducible apply lm_sPL); exact rfl; exact rfl)
    | ((with_reducible apply lm_sAA); exact rfl; exact rfl)
    | ((with_reducible apply lm_sA); (first | exact rfl | assumption); omega)
    | ((with_reducible apply lm_sJ); (first | exact rfl | assumption); omega)
    | ((with_reducible apply lm_sB); (first | exact rfl | assumption); omega)
    | ((with_reducible apply lm_wA); (first | exact rfl | assumption); omega)
    | ((with_reducible apply lm_wJ); (first | exact rfl | assumption); omega)
    | ((with_reducible apply lm_wB); (first | exact rfl | assumption); omega)
    | ((with_reducible apply lm_sAl); (first | exact rfl | assumption); omega)
    | ((with_reducible apply lm_iW); decide))
    simp only [Nat.reduceDiv, Nat.reduceMod]
    rw [hk1]
    refine lm_geF (by omega) (by omega) (by omega) ?_
    rw [lm_K3072, lm_om, lm_K0]
    repeat (first
    | ((with_reducible apply lm_sI); exact rfl)
    | ((with_reducible apply lm_sR); exact rfl)
    | ((with_reducible apply lm_sS); exact rfl; exact rfl)
    | ((with_reducible apply lm_sL); exact rfl)
    | ((with_reducible apply lm_sP); exact rfl; exact rfl)
    | ((with_reducible apply lm_sPL); exact rfl; exact rfl)
    | ((with_reducible apply lm_sAA); exact rfl; exact rfl)
    | ((with_reducible apply lm_sA); (first | exact rfl | assumption); omega)
    | ((with_reducible apply lm_sJ); (first | exact rfl | assumption); omega)
    | ((with_reducible apply lm_sB); (first | exact rfl | assumption); omega)
    | ((with_reducible apply lm_wA); (first | exact rfl | assumption); omega)
    | ((with_reducible apply lm_wJ); (first | exact rfl | assumption); omega)
    | ((with_reducible apply lm_wB); (first | exact rfl | assumption); omega)
    | ((with_reducible apply lm_sAl); (first | exact rfl | assumption); omega)
    | ((with_reducible apply lm_iW); decide))
    refine k2 R (lm_e78_312 ?_)
    unfold lm_q78_312
    rw [lm_K256, lm_K10, lm_K11]
    refine lm_geT (by omega) (by omega) (by omega) ?_
    repeat (first
    | ((with_reducible apply lm_sI); exact rfl)
    | ((with_reducible apply lm_sR); exact rfl)
    | ((with_reducible apply lm_sS); exact rfl; exact rfl)
    | ((with_reducible apply lm_sL); exact rfl)
    | ((with_reducible apply lm_sP); exact rfl; exact rfl)
    | ((with_reducible apply lm_sPL); exact rfl; exact rfl)
    | ((with_reducible apply lm_sAA); exact rfl; exact rfl)
    | ((with_reducible apply lm_sA); (first | exact rfl | assumption); omega)
    | ((with_reducible apply lm_sJ); (first | exact rfl | assumption); omega)
    | ((with_reducible apply lm_sB); (first | exact rfl | assumption); omega)
    | ((with_reducible apply lm_wA); (first | exact rfl | assumption); omega)
    | ((with_reducible apply lm_wJ); (first | exact rfl | assumption); omega)
    | ((with_reducible apply lm_wB); (first | exact rfl | assumption); omega)
    | ((with_reducible apply lm_sAl); (first | exact rfl | assumption); omega)
    | ((with_reducible apply lm_iW); decide))
    refine lm_sAA rfl (lm_roF j (by omega)) ?_
    repeat (first
    | ((with_reducible apply lm_sI); exact rfl)
    | ((with_reducible apply lm_sR); exact rfl)
    | ((with_reducible apply lm_sS); exact rfl; exact rfl)
    | ((with_reducible apply lm_sL); exact rfl)
    | ((with_reducible apply lm_sP); exact rfl; exact rfl)
    | ((with_reducible apply lm_sPL); exact rfl; exact rfl)
    | ((with_reducible apply lm_sAA); exact rfl; exact rfl)
    | ((with_reducible apply lm_sA); (first | exact rfl | assumption); omega)
    | ((with_reducible apply lm_sJ); (first | exact rfl | assumption); omega)
    | ((with_reducible apply lm_sB); (first | exact rfl | assumption); omega)
    | ((with_reducible apply lm_wA); (first | exact rfl | assumption); omega)
    | ((with_reducible apply lm_wJ); (first | exact rfl | assumption); omega)
    | ((with_reducible apply lm_wB); (first | exact rfl | assumption); omega)
    | ((with_reducible apply lm_sAl); (first | exact rfl | assumption); omega)
    | ((with_reducible apply lm_iW); decide))
    refine lm_cV c3 ?_
    rw [lm_K1, lm_oo]
    exact K) k 0 (by omega) m n ⟨rfl, fun _ _ _ _ => rfl, fun _ _ => rfl, hS⟩
  subst en
  exact ⟨m', h1, h2, h3, k1⟩
end LMRY
