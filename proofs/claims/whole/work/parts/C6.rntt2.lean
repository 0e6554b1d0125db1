/-! ===== the reference's transform of Kem, second part ===== -/
def lm_rg (B : Int) (G : Nat → Int) : Prop := ∀ j, j < 256 → 0 ≤ G j ∧ G j ≤ B
theorem lm_pk_b (e : Nat) : 0 ≤ lm_pk e ∧ lm_pk e ≤ 3328 := by
  unfold lm_pk
  have := Nat.mod_lt (17 ^ e) (show 0 < 3329 by decide)
  omega
theorem lm_pk_cg (e : Nat) : ln_cg 3329 (lm_pk (e % 256)) ((17 : Int) ^ e) := by
  have h : ln_cg 3329 ((17 : Int) ^ 256) 1 := ln_cg.ofe (by decide +kernel)
  have h1 : ln_cg 3329 (lm_pk (e % 256)) ((17 : Int) ^ (e % 256)) := by
    refine ln_cg.ofe ?_
    unfold lm_pk
    rw [show ((17 : Int) ^ (e % 256)) = ((17 ^ (e % 256) : Nat) : Int) by rw [Int.natCast_pow]; rfl]
    generalize 17 ^ (e % 256) = A
    omega
  refine h1.tr ?_
  have e1 : (17 : Int) ^ e = ((17 : Int) ^ 256) ^ (e / 256) * (17 : Int) ^ (e % 256) := by
    rw [← Int.pow_mul, ← Int.pow_add, Nat.div_add_mod]
  rw [e1]
  have h2 := (h.pw (e / 256)).mu (ln_cg.rf (q := 3329) (a := (17 : Int) ^ (e % 256)))
  rw [Int.one_pow, Int.one_mul] at h2
  exact h2.sy
set_option maxRecDepth 100000 in
theorem lm_gm_17 : ∀ i, i < 128 → lm_gm lm_zk (128 + i) % 3329 = ((17 ^ (2 * lm_br 7 i + 1) : Nat) : Int) % 3329 := by decide +kernel
theorem lm_pk_gm {i : Nat} (hi : i < 128) (t : Nat) : ln_cg 3329 (lm_pk ((2 * lm_br 7 i + 1) * t % 256)) (lm_gm lm_zk (128 + i) ^ t) := by
  refine (lm_pk_cg _).tr ?_
  rw [Int.pow_mul]
  refine ln_cg.pw ?_ t
  refine (ln_cg.ofe ?_).sy
  rw [lm_gm_17 i hi, Int.natCast_pow]
  rfl
theorem lm_pk_dI {i : Nat} (t : Nat) : ln_cg 3329 (lm_pk ((256 - (2 * lm_br 7 i + 1) * t % 256) % 256)) (lm_dI i ^ t) := by
  have hb := lm_br_lt 7 i
  have hz : 2 * lm_br 7 i + 1 ≤ 256 := by omega
  have e : (256 - (2 * lm_br 7 i + 1) * t % 256) % 256 = (256 - (2 * lm_br 7 i + 1)) * t % 256 := by
    rw [Nat.sub_mul]
    have := Nat.mul_le_mul_right t hz
    omega
  rw [e]
  refine (lm_pk_cg _).tr ?_
  rw [Int.pow_mul]
  refine ln_cg.pw ?_ t
  refine (ln_cg.ofe ?_).sy
  unfold lm_dI ln_dk
  rw [show ((17 : Int) ^ (256 - (2 * lm_br 7 i + 1))) = ((17 ^ (256 - (2 * lm_br 7 i + 1)) : Nat) : Int) by rw [Int.natCast_pow]; rfl]
  generalize 17 ^ (256 - (2 * lm_br 7 i + 1)) = A
  omega
section LMRN2
variable {sc : lm_H} {d : Nat} {m m0 : lm_MI} {n : lm_ML} {x : lm_H × Nat × Nat} {p : Nat} {G : Nat → Int}
def lm_W7 (G : Nat → Int) (j : Nat) : Int := ln_sg 128 (fun t => G (2 * t + j % 2) * lm_pk ((2 * lm_br 7 (j / 2) + 1) * t % 256))
theorem lm_W7_b (h : lm_rg 4095 G) {j : Nat} : 0 ≤ lm_W7 G j ∧ lm_W7 G j ≤ 128 * 13628160 := lm_sg_bd (B := 13628160) fun t ht => by
  have h1 := h (2 * t + j % 2) (by omega)
  have h2 := lm_pk_b ((2 * lm_br 7 (j / 2) + 1) * t % 256)
  have h3 := lm_mulb (A := 4095) (B := 3328) ⟨by omega, h1.2⟩ ⟨by omega, h2.2⟩
  exact ⟨Int.mul_nonneg h1.1 h2.1, h3.2⟩
theorem lm_W7_nt (h : lm_rg 4095 G) {j : Nat} (hj : j < 256) : (lm_W7 G j).tmod 3329 = lm_nt G j % 3329 := by
  rw [Int.tmod_eq_emod_of_nonneg (lm_W7_b h).1]
  refine ln_cg.eq ?_
  unfold lm_W7 lm_nt
  refine lm_sg_cg fun t ht => ?_
  rw [show 2 * t + j % 2 = j % 2 + t * 2 by omega]
  exact ln_cg.rf.mu (lm_pk_gm (by omega) t)
/-- one sum of ntt -/
theorem lm_l71i {i : Nat} (hi : i < 128) (hp : lm_ar p = some (0, 256)) (hk : ∀ i, i < 256 → m 231 i = Int32.ofInt (lm_pk i)) (hr : lm_rg 4095 G) (hG : ∀ j, j < 256 → m p j = Int32.ofInt (G j)) {R : Except Nat lm_R × lm_S} (K : lm_rn sc d lm_m71.2.2.2.2.1 (lm_reg lm_m71.2.2.2.2.2) (29, [(0, .ref 203), (1, .ref p), (2, .int (Int32.ofNat i)), (3, .int (Int32.ofNat (2 * lm_br 7 i + 1))), (4, .long (Int64.ofInt (lm_W7 G (2 * i)))), (6, .long (Int64.ofInt (lm_W7 G (2 * i + 1)))), (8, .int (Int32.ofNat 128))], []) (lm_w m n x) = some R) : lm_rn sc d lm_m71.2.2.2.2.1 (lm_reg lm_m71.2.2.2.2.2) (29, [(0, .ref 203), (1, .ref p), (2, .int (Int32.ofNat i)), (3, .int (Int32.ofNat (2 * lm_br 7 i + 1))), (4, .long (Int64.ofInt 0)), (6, .long (Int64.ofInt 0)), (8, .int (Int32.ofNat 0))], []) (lm_w m n x) = some R := by
  have hb := lm_br_lt 7 i
  obtain ⟨m', n', ⟨e1, e2⟩, h2⟩ := lm_lp (sc := sc) (d := d) (b := 128) (hs := lm_m71.2.2.2.2.1) (code := lm_reg lm_m71.2.2.2.2.2) (x := x) (fr := fun t => (29, [(0, .ref 203), (1, .ref p), (2, .int (Int32.ofNat i)), (3, .int (Int32.ofNat (2 * lm_br 7 i + 1))), (4, .long (Int64.ofInt (ln_sg t (fun t => G (2 * t) * lm_pk ((2 * lm_br 7 i + 1) * t % 256))))), (6, .long (Int64.ofInt (ln_sg t (fun t => G (2 * t + 1) * lm_pk ((2 * lm_br 7 i + 1) * t % 256))))), (8, .int (Int32.ofNat t))], [])) (I := fun t m' n' => m' = m ∧ n' = n) (fun t ht m1 n1 ⟨e1, e2⟩ => by
    refine ⟨m, n, ⟨rfl, rfl⟩, fun R K => lm_e71_29 ?_⟩
    subst e1
    subst e2
    have hz : (2 * lm_br 7 i + 1) * t < 255 * 128 + 1 := by
      have := Nat.mul_le_mul (show 2 * lm_br 7 i + 1 ≤ 255 by omega) (Nat.le_of_lt ht)
      omega
    have hm := Nat.mod_lt ((2 * lm_br 7 i + 1) * t) (show 0 < 256 by decide)
    unfold lm_q71_29
    rw [lm_K128, lm_K256, lm_K2, lm_K1]
    simp only [lm_om, lm_oo]
    refine lm_geF (by omega) (by omega) (by omega) ?_
    rw [lm_orm (by omega) (by omega)]
    repeat (first
    | ((with_reducible apply lm_sI); exact rfl)
    | ((with_reducible apply lm_sR); exact rfl)
    | ((with_reducible apply lm_sS); exact rfl; exact rfl)
    | ((with_reducible apply lm_sL); exact rfl)
    | ((with_reducible apply lm_sP); exact rfl; exact rfl)
    | ((with_reducible apply lm_sPL); exact rfl; exact rfl)
    | ((with_reducible apply lm_sAA); exact rfl; exact rfl)
    | ((with_reducible apply lm_sA); (first | exact rfl | assumption); omega)
    | ((with_reducible apply lm_sJ); (first | exact rfl | assumption); omega)
    | ((with_reducible apply lm_sB); (first | exact rfl | assumption); omega)
    | ((with_reducible apply lm_wA); (first | exact rfl | assumption); omega)
    | ((with_reducible apply lm_wJ); (first | exact rfl | assumption); omega)
    | ((with_reducible apply lm_wB); (first | exact rfl | assumption); omega)
    | ((with_reducible apply lm_sAl); (first | exact rfl | assumption); omega)
    | ((with_reducible apply lm_iW); decide))
    have b0 := hr (2 * t) (by omega)
    have b1 := hr (2 * t + 1) (by omega)
    have bk := lm_pk_b ((2 * lm_br 7 i + 1) * t % 256)
    rw [hk _ hm, hG _ (by omega), hG _ (by omega), lm_il (by omega) (by omega), lm_il (by omega) (by omega), lm_il (by omega) (by omega), lm_LM, lm_LM, lm_LA, lm_LA]
    exact K) 128 0 (by omega) m n ⟨rfl, rfl⟩
  subst e1
  subst e2
  refine h2 R ?_
  unfold lm_W7 at K
  simp only [show 2 * i % 2 = 0 by omega, show (2 * i + 1) % 2 = 1 by omega, show 2 * i / 2 = i by omega, show (2 * i + 1) / 2 = i by omega, Nat.add_zero] at K
  exact K
/-- ntt -/
theorem lm_u71 (hp : lm_ar p = some (0, 256)) (hk : ∀ i, i < 256 → m 231 i = Int32.ofInt (lm_pk i)) (hr : lm_rg 4095 G) (hG : ∀ j, j < 256 → m p j = Int32.ofInt (G j)) : ∃ m' n', lm_cal sc (d + 2) 71 [.ref 203, .ref p] (lm_w m n x) = some (.ok none, lm_w m' n' x) ∧ lm_PA m m' p (fun j => lm_nt G j % 3329) ∧ ∀ q, q ≠ 230 → n' q = n q := by
  obtain ⟨m1, n1, ⟨em, h0, h1⟩, k1⟩ := lm_lp (sc := sc) (d := d + 1) (b := 128) (hs := lm_m71.2.2.2.2.1) (code := lm_reg lm_m71.2.2.2.2.2) (x := x) (fr := fun i => (2, [(0, .ref 203), (1, .ref p), (2, .int (Int32.ofNat i))], [])) (I := fun i m' n' => m' = m ∧ (∀ q, q ≠ 230 → n' q = n q) ∧ ∀ j, j < 2 * i → n' 230 j = Int64.ofInt ((lm_W7 G j).tmod 3329)) (fun i hi m1 n1 ⟨em, h0, h1⟩ => by
    subst em
    refine ⟨?m', ?n', ?_, fun R K => lm_e71_2 ?run⟩
    case run =>
      unfold lm_q71_2
      rw [lm_K128]
      refine lm_geF (by omega) (by omega) (by omega) ?_
      refine lm_cI (lm_u158_7 hi) ?_
      rw [lm_K2, lm_K1, lm_om, lm_oo, lm_LN, lm_K0]
      refine lm_l71i hi hp hk hr hG (lm_e71_29 ?_)
      unfold lm_q71_29
      rw [lm_K128, lm_K2, lm_K1]
      simp only [lm_om, lm_oo]
      refine lm_geT (by omega) (by omega) (by omega) ?_
      repeat (first
    | ((with_reducible apply lm_sI); exact rfl)
    | ((with_reducible apply lm_sR); exact rfl)
    | ((with_reducible apply lm_sS); exact rfl; exact rfl)
    | ((with_reducible apply lm_sL); exact rfl)
    | ((with_reducible apply lm_sP); exact rfl; exact rfl)
    | ((with_reducible apply lm_sPL); exact rfl; exact rfl)
    | ((with_reducible apply lm_sAA); exact rfl; exact rfl)
    | ((with_reducible apply lm_sA); (first | exact rfl | assumption); omega)
    | ((with_reducible apply lm_sJ); (first | exact rfl | assumption); omega)
    | ((with_reducible apply lm_sB); (first | exact rfl | assumption); omega)
    | ((with_reducible apply lm_wA); (first | exact rfl | assumption); omega)
    | ((with_reducible apply lm_wJ); (first | exact rfl | assumption); omega)
    | ((with_reducible apply lm_wB); (first | exact rfl | assumption); omega)
    | ((with_reducible apply lm_sAl); (first | exact rfl | assumption); omega)
    | ((with_reducible apply lm_iW); decide))
      exact K
    · have b0 := lm_W7_b hr (j := 2 * i)
      have b1 := lm_W7_b hr (j := 2 * i + 1)
      refine ⟨rfl, fun q hq => by rw [lm_u_row hq, lm_u_row hq]; exact h0 q hq, fun j hj => ?_⟩
      by_cases c : j = 2 * i + 1
      · subst c
        rw [lm_u_eq, lm_LN, lm_LR (by omega) (by omega) (by decide) (by decide)]
        rfl
      · rw [lm_u_ne (by omega)]
        by_cases c2 : j = 2 * i
        · subst c2
          rw [lm_u_eq, lm_LN, lm_LR (by omega) (by omega) (by decide) (by decide)]
          rfl
        · rw [lm_u_ne (by omega)]
          exact h1 j (by omega)) 128 0 (by omega) m n ⟨rfl, fun _ _ => rfl, fun j hj => absurd hj (by omega)⟩
  subst em
  obtain ⟨m2, n2, ⟨en, g0, g1⟩, k2⟩ := lm_lp (sc := sc) (d := d + 1) (b := 256) (hs := lm_m71.2.2.2.2.1) (code := lm_reg lm_m71.2.2.2.2.2) (x := x) (fr := fun i => (129, [(0, .ref 203), (1, .ref p), (2, .int (Int32.ofNat i))], [])) (I := fun i m' n' => n' = n1 ∧ (∀ q, q ≠ p → m' q = m1 q) ∧ ∀ j, j < i → m' p j = Int32.ofInt ((lm_W7 G j).tmod 3329)) (fun i hi m2 n2 ⟨en, g0, g1⟩ => by
    refine ⟨?m2', ?n2', ?_, fun R K => lm_e71_129 ?run2⟩
    case run2 =>
      unfold lm_q71_129
      rw [lm_K256]
      refine lm_geF (by omega) (by omega) (by omega) ?_
      repeat (first
    | ((with_reducible apply lm_sI); exact rfl)
    | ((with_reducible apply lm_sR); exact rfl)
    | ((with_reducible apply lm_sS); exact rfl; exact rfl)
    | ((with_reducible apply lm_sL); exact rfl)
    | ((with_reducible apply lm_sP); exact rfl; exact rfl)
    | ((with_reducible apply lm_sPL); exact rfl; exact rfl)
    | ((with_reducible apply lm_sAA); exact rfl; exact rfl)
    | ((with_reducible apply lm_sA); (first | exact rfl | assumption); omega)
    | ((with_reducible apply lm_sJ); (first | exact rfl | assumption); omega)
    | ((with_reducible apply lm_sB); (first | exact rfl | assumption); omega)
    | ((with_reducible apply lm_wA); (first | exact rfl | assumption); omega)
    | ((with_reducible apply lm_wJ); (first | exact rfl | assumption); omega)
    | ((with_reducible apply lm_wB); (first | exact rfl | assumption); omega)
    | ((with_reducible apply lm_sAl); (first | exact rfl | assumption); omega)
    | ((with_reducible apply lm_iW); decide))
      rw [lm_K1, lm_oo]
      exact K
    · refine ⟨en, fun q hq => (lm_u_row hq).trans (g0 q hq), fun j hj => ?_⟩
      by_cases c : j = i
      · subst c
        rw [lm_u_eq, en, h1 j (by omega), ln_li]
      · rw [lm_u_ne (by omega)]
        exact g1 j (by omega)) 256 0 (by omega) m1 n1 ⟨rfl, fun _ _ => rfl, fun j hj => absurd hj (by omega)⟩
  subst en
  refine ⟨m2, n2, ?_, ⟨g0, fun j hj => by rw [g1 j hj, lm_W7_nt hr hj]⟩, h0⟩
  refine lm_cal_of (Y := lm_m71) rfl rfl (lm_e71_0 ?_)
  unfold lm_q71_0
  rw [lm_K0]
  refine k1 _ (lm_e71_2 ?_)
  unfold lm_q71_2
  rw [lm_K128]
  refine lm_geT (by omega) (by omega) (by omega) ?_
  rw [lm_K0]
  refine k2 _ (lm_e71_129 ?_)
  unfold lm_q71_129
  rw [lm_K256]
  exact lm_geT (by omega) (by omega) (by omega) rfl
def lm_W8 (G : Nat → Int) (j : Nat) : Int := ln_sg 128 (fun t => G (2 * t + j % 2) * lm_pk ((256 - (2 * lm_br 7 t + 1) * (j / 2) % 256) % 256))
theorem lm_W8_b (h : lm_rg 4095 G) {j : Nat} : 0 ≤ lm_W8 G j ∧ lm_W8 G j ≤ 128 * 13628160 := lm_sg_bd (B := 13628160) fun t ht => by
  have h1 := h (2 * t + j % 2) (by omega)
  have h2 := lm_pk_b ((256 - (2 * lm_br 7 t + 1) * (j / 2) % 256) % 256)
  have h3 := lm_mulb (A := 4095) (B := 3328) ⟨by omega, h1.2⟩ ⟨by omega, h2.2⟩
  exact ⟨Int.mul_nonneg h1.1 h2.1, h3.2⟩
theorem lm_W8_un (h : lm_rg 4095 G) {j : Nat} : ((lm_W8 G j).tmod 3329 * 3303).tmod 3329 = lm_un G j % 3329 := by
  have hb := lm_W8_b h (j := j)
  rw [Int.tmod_eq_emod_of_nonneg hb.1, Int.tmod_eq_emod_of_nonneg (Int.mul_nonneg (Int.emod_nonneg _ (by decide)) (by decide))]
  refine ln_cg.eq ((ln_cg.em.mu ln_cg.rf).tr ?_)
  unfold lm_W8 lm_un
  refine ln_cg.mu (lm_sg_cg fun t ht => ?_) ln_cg.rf
  rw [Nat.mul_comm 2 t]
  exact ln_cg.rf.mu (lm_pk_dI (j / 2))
theorem lm_l83i {i : Nat} (hi : i < 128) (hp : lm_ar p = some (0, 256)) (hk : ∀ i, i < 256 → m 231 i = Int32.ofInt (lm_pk i)) (hr : lm_rg 4095 G) (hG : ∀ j, j < 256 → m p j = Int32.ofInt (G j)) {R : Except Nat lm_R × lm_S} (K : lm_rn sc (d + 1) lm_m83.2.2.2.2.1 (lm_reg lm_m83.2.2.2.2.2) (17, [(0, .ref 203), (1, .ref p), (2, .int (Int32.ofNat i)), (3, .long (Int64.ofInt (lm_W8 G (2 * i)))), (5, .long (Int64.ofInt (lm_W8 G (2 * i + 1)))), (7, .int (Int32.ofNat 128))], []) (lm_w m n x) = some R) : lm_rn sc (d + 1) lm_m83.2.2.2.2.1 (lm_reg lm_m83.2.2.2.2.2) (17, [(0, .ref 203), (1, .ref p), (2, .int (Int32.ofNat i)), (3, .long (Int64.ofInt 0)), (5, .long (Int64.ofInt 0)), (7, .int (Int32.ofNat 0))], []) (lm_w m n x) = some R := by
  obtain ⟨m', n', ⟨e1, e2⟩, h2⟩ := lm_lp (sc := sc) (d := d + 1) (b := 128) (hs := lm_m83.2.2.2.2.1) (code := lm_reg lm_m83.2.2.2.2.2) (x := x) (fr := fun t => (17, [(0, .ref 203), (1, .ref p), (2, .int (Int32.ofNat i)), (3, .long (Int64.ofInt (ln_sg t (fun t => G (2 * t) * lm_pk ((256 - (2 * lm_br 7 t + 1) * i % 256) % 256))))), (5, .long (Int64.ofInt (ln_sg t (fun t => G (2 * t + 1) * lm_pk ((256 - (2 * lm_br 7 t + 1) * i % 256) % 256))))), (7, .int (Int32.ofNat t))], [])) (I := fun t m' n' => m' = m ∧ n' = n) (fun t ht m1 n1 ⟨e1, e2⟩ => by
    refine ⟨m, n, ⟨rfl, rfl⟩, fun R K => lm_e83_17 ?_⟩
    subst e1
    subst e2
    have hb := lm_br_lt 7 t
    have hz : (2 * lm_br 7 t + 1) * i < 255 * 128 + 1 := by
      have := Nat.mul_le_mul (show 2 * lm_br 7 t + 1 ≤ 255 by omega) (Nat.le_of_lt hi)
      omega
    have hm := Nat.mod_lt ((2 * lm_br 7 t + 1) * i) (show 0 < 256 by decide)
    have hm2 := Nat.mod_lt (256 - (2 * lm_br 7 t + 1) * i % 256) (show 0 < 256 by decide)
    unfold lm_q83_17
    rw [lm_K128]
    refine lm_geF (by omega) (by omega) (by omega) ?_
    repeat (first
    | ((with_reducible apply lm_sI); exact rfl)
    | ((with_reducible apply lm_sR); exact rfl)
    | ((with_reducible apply lm_sS); exact rfl; exact rfl)
    | ((with_reducible apply lm_sL); exact rfl)
    | ((with_reducible apply lm_sP); exact rfl; exact rfl)
    | ((with_reducible apply lm_sPL); exact rfl; exact rfl)
    | ((with_reducible apply lm_sAA); exact rfl; exact rfl)
    | ((with_reducible apply lm_sA); (first | exact rfl | assumption); omega)
    | ((with_reducible apply lm_sJ); (first | exact rfl | assumption); omega)
    | ((with_reducible apply lm_sB); (first | exact rfl | assumption); omega)
    | ((with_reducible apply lm_wA); (first | exact rfl | assumption); omega)
    | ((with_reducible apply lm_wJ); (first | exact rfl | assumption); omega)
    | ((with_reducible apply lm_wB); (first | exact rfl | assumption); omega)
    | ((with_reducible apply lm_sAl); (first | exact rfl | assumption); omega)
    | ((with_reducible apply lm_iW); decide))
    refine lm_cI (lm_u158_7 ht) ?_
    rw [lm_K256, lm_K2, lm_K1]
    simp only [lm_om, lm_oo]
    rw [lm_orm (by omega) (by omega), lm_osu (by omega), lm_orm (by omega) (by omega)]
    repeat (first
    | ((with_reducible apply lm_sI); exact rfl)
    | ((with_reducible apply lm_sR); exact rfl)
    | ((with_reducible apply lm_sS); exact rfl; exact rfl)
    | ((with_reducible apply lm_sL); exact rfl)
    | ((with_reducible apply lm_sP); exact rfl; exact rfl)
    | ((with_reducible apply lm_sPL); exact rfl; exact rfl)
    | ((with_reducible apply lm_sAA); exact rfl; exact rfl)
    | ((with_reducible apply lm_sA); (first | exact rfl | assumption); omega)
    | ((with_reducible apply lm_sJ); (first | exact rfl | assumption); omega)
    | ((with_reducible apply lm_sB); (first | exact rfl | assumption); omega)
    | ((with_reducible apply lm_wA); (first | exact rfl | assumption); omega)
    | ((with_reducible apply lm_wJ); (first | exact rfl | assumption); omega)
    | ((with_reducible apply lm_wB); (first | exact rfl | assumption); omega)
    | ((with_reducible apply lm_sAl); (first | exact rfl | assumption); omega)
    | ((with_reducible apply lm_iW); decide))
    have b0 := hr (2 * t) (by omega)
    have b1 := hr (2 * t + 1) (by omega)
    have bk := lm_pk_b ((256 - (2 * lm_br 7 t + 1) * i % 256) % 256)
    rw [hk _ hm2, hG _ (by omega), hG _ (by omega), lm_il (by omega) (by omega), lm_il (by omega) (by omega), lm_il (by omega) (by omega), lm_LM, lm_LM, lm_LA, lm_LA]
    exact K) 128 0 (by omega) m n ⟨rfl, rfl⟩
  subst e1
  subst e2
  refine h2 R ?_
  unfold lm_W8 at K
  simp only [show 2 * i % 2 = 0 by omega, show (2 * i + 1) % 2 = 1 by omega, show 2 * i / 2 = i by omega, show (2 * i + 1) / 2 = i by omega, Nat.add_zero] at K
  exact K
/-- unntt -/
theorem lm_u83 (hp : lm_ar p = some (0, 256)) (hk : ∀ i, i < 256 → m 231 i = Int32.ofInt (lm_pk i)) (hr : lm_rg 4095 G) (hG : ∀ j, j < 256 → m p j = Int32.ofInt (G j)) : ∃ m' n', lm_cal sc (d + 2) 83 [.ref 203, .ref p] (lm_w m n x) = some (.ok none, lm_w m' n' x) ∧ lm_PA m m' p (fun j => lm_un G j % 3329) ∧ ∀ q, q ≠ 230 → n' q = n q := by
  obtain ⟨m1, n1, ⟨em, h0, h1⟩, k1⟩ := lm_lp (sc := sc) (d := d + 1) (b := 128) (hs := lm_m83.2.2.2.2.1) (code := lm_reg lm_m83.2.2.2.2.2) (x := x) (fr := fun i => (2, [(0, .ref 203), (1, .ref p), (2, .int (Int32.ofNat i))], [])) (I := fun i m' n' => m' = m ∧ (∀ q, q ≠ 230 → n' q = n q) ∧ ∀ j, j < 2 * i → n' 230 j = Int64.ofInt (((lm_W8 G j).tmod 3329 * 3303).tmod 3329)) (fun i hi m1 n1 ⟨em, h0, h1⟩ => by
    subst em
    refine ⟨?m', ?n', ?_, fun R K => lm_e83_2 ?run⟩
    case run =>
      unfold lm_q83_2
      rw [lm_K128]
      refine lm_geF (by omega) (by omega) (by omega) ?_
      rw [lm_LN, lm_K0]
      refine lm_l83i hi hp hk hr hG (lm_e83_17 ?_)
      unfold lm_q83_17
      rw [lm_K128, lm_K2, lm_K1]
      simp only [lm_om, lm_oo]
      refine lm_geT (by omega) (by omega) (by omega) ?_
      repeat (first
    | ((with_reducible apply lm_sI); exact rfl)
    | ((with_reducible apply lm_sR); exact rfl)
    | ((with_reducible apply lm_sS); exact rfl; exact rfl)
    | ((with_reducible apply lm_sL); exact rfl)
    | ((with_reducible apply lm_sP); exact rfl; exact rfl)
    | ((with_reducible apply lm_sPL); exact rfl; exact rfl)
    | ((with_reducible apply lm_sAA); exact rfl; exact rfl)
    | ((with_reducible apply lm_sA); (first | exact rfl | assumption); omega)
    | ((with_reducible apply lm_sJ); (first | exact rfl | assumption); omega)
    | ((with_reducible apply lm_sB); (first | exact rfl | assumption); omega)
    | ((with_reducible apply lm_wA); (first | exact rfl | assumption); omega)
    | ((with_reducible apply lm_wJ); (first | exact rfl | assumption); omega)
    | ((with_reducible apply lm_wB); (first | exact rfl | assumption); omega)
    | ((with_reducible apply lm_sAl); (first | exact rfl | assumption); omega)
    | ((with_reducible apply lm_iW); decide))
      exact K
    · have val : ∀ j, lm_remL ((lm_remL (Int64.ofInt (lm_W8 G j)) (Int64.ofNat 3329)) * (Int64.ofNat 3303)) (Int64.ofNat 3329) = Int64.ofInt (((lm_W8 G j).tmod 3329 * 3303).tmod 3329) := fun j => by
        have b0 := lm_W8_b hr (j := j)
        have t := lm_tmb (a := lm_W8 G j) (show (0 : Int) < 3329 by decide)
        rw [lm_LN, lm_LN, lm_LR (by omega) (by omega) (by decide) (by decide)]
        rw [lm_LM, lm_LR (by show _ < (lm_W8 G j).tmod 3329 * 3303; omega) (by show (lm_W8 G j).tmod 3329 * 3303 < _; omega) (by decide) (by decide)]
        rfl
      refine ⟨rfl, fun q hq => by rw [lm_u_row hq, lm_u_row hq]; exact h0 q hq, fun j hj => ?_⟩
      by_cases c : j = 2 * i + 1
      · subst c
        rw [lm_u_eq, val]
      · rw [lm_u_ne (by omega)]
        by_cases c2 : j = 2 * i
        · subst c2
          rw [lm_u_eq, val]
        · rw [lm_u_ne (by omega)]
          exact h1 j (by omega)) 128 0 (by omega) m n ⟨rfl, fun _ _ => rfl, fun j hj => absurd hj (by omega)⟩
  subst em
  obtain ⟨m2, n2, ⟨en, g0, g1⟩, k2⟩ := lm_lp (sc := sc) (d := d + 1) (b := 256) (hs := lm_m83.2.2.2.2.1) (code := lm_reg lm_m83.2.2.2.2.2) (x := x) (fr := fun i => (147, [(0, .ref 203), (1, .ref p), (2, .int (Int32.ofNat i))], [])) (I := fun i m' n' => n' = n1 ∧ (∀ q, q ≠ p → m' q = m1 q) ∧ ∀ j, j < i → m' p j = Int32.ofInt (((lm_W8 G j).tmod 3329 * 3303).tmod 3329)) (fun i hi m2 n2 ⟨en, g0, g1⟩ => by
    refine ⟨?m2', ?n2', ?_, fun R K => lm_e83_147 ?run2⟩
    case run2 =>
      unfold lm_q83_147
      rw [lm_K256]
      refine lm_geF (by omega) (by omega) (by omega) ?_
      repeat (first
    | ((with_reducible apply lm_sI); exact rfl)
    | ((with_reducible apply lm_sR); exact rfl)
    | ((with_reducible apply lm_sS); exact rfl; exact rfl)
    | ((with_reducible apply lm_sL); exact rfl)
    | ((with_reducible apply lm_sP); exact rfl; exact rfl)
    | ((with_reducible apply lm_sPL); exact rfl; exact rfl)
    | ((with_reducible apply lm_sAA); exact rfl; exact rfl)
    | ((with_reducible apply lm_sA); (first | exact rfl | assumption); omega)
    | ((with_reducible apply lm_sJ); (first | exact rfl | assumption); omega)
    | ((with_reducible apply lm_sB); (first | exact rfl | assumption); omega)
    | ((with_reducible apply lm_wA); (first | exact rfl | assumption); omega)
    | ((with_reducible apply lm_wJ); (first | exact rfl | assumption); omega)
    | ((with_reducible apply lm_wB); (first | exact rfl | assumption); omega)
    | ((with_reducible apply lm_sAl); (first | exact rfl | assumption); omega)
    | ((with_reducible apply lm_iW); decide))
      rw [lm_K1, lm_oo]
      exact K
    · refine ⟨en, fun q hq => (lm_u_row hq).trans (g0 q hq), fun j hj => ?_⟩
      by_cases c : j = i
      · subst c
        rw [lm_u_eq, en, h1 j (by omega), ln_li]
      · rw [lm_u_ne (by omega)]
        exact g1 j (by omega)) 256 0 (by omega) m1 n1 ⟨rfl, fun _ _ => rfl, fun j hj => absurd hj (by omega)⟩
  subst en
  refine ⟨m2, n2, ?_, ⟨g0, fun j hj => by rw [g1 j hj, lm_W8_un hr]⟩, h0⟩
  refine lm_cal_of (Y := lm_m83) rfl rfl (lm_e83_0 ?_)
  unfold lm_q83_0
  rw [lm_K0]
  refine k1 _ (lm_e83_2 ?_)
  unfold lm_q83_2
  rw [lm_K128]
  refine lm_geT (by omega) (by omega) (by omega) ?_
  rw [lm_K0]
  refine k2 _ (lm_e83_147 ?_)
  unfold lm_q83_147
  rw [lm_K256]
  exact lm_geT (by omega) (by omega) (by omega) rfl
/-- addProduct -/
theorem lm_u73 {i0 f g : Nat} {S F H : Nat → Int} (hi0 : lm_ar i0 = some (0, 256)) (hf : lm_ar f = some (0, 256)) (hg : lm_ar g = some (0, 256)) (hf9 : f ≠ i0) (hg9 : g ≠ i0) (h231 : i0 ≠ 231) (hk : ∀ i, i < 256 → m 231 i = Int32.ofInt (lm_pk i)) (hS : lm_PA m0 m i0 S) (hF : ∀ j, j < 256 → m f j = Int32.ofInt (F j)) (hH : ∀ j, j < 256 → m g j = Int32.ofInt (H j)) (bS : lm_rg 4095 S) (bF : lm_rg 4095 F) (bH : lm_rg 4095 H) : ∃ m', lm_cal sc (d + 2) 73 [.ref 203, .ref i0, .ref f, .ref g] (lm_w m n x) = some (.ok none, lm_w m' n x) ∧ lm_PA m0 m' i0 (fun j => lm_ap S F H j % 3329) := by
  have r0 : ∀ q, q ≠ i0 → m q = m0 q := hS.1
  obtain ⟨m', n', ⟨hn, h1⟩, h2⟩ := lm_lp (sc := sc) (d := d + 1) (b := 128) (hs := lm_m73.2.2.2.2.1) (code := lm_reg lm_m73.2.2.2.2.2) (x := x) (fr := fun i => (3, [(0, .ref 203), (1, .ref i0), (2, .ref f), (3, .ref g), (4, .int (Int32.ofNat i))], [])) (I := fun i m' n' => n' = n ∧ lm_PA m0 m' i0 (fun j => if j < 2 * i then lm_ap S F H j % 3329 else S j)) (fun i hi m1 n1 ⟨en, h1⟩ => by
    have s0 := h1.2 (2 * i) (by omega)
    have s1 := h1.2 (2 * i + 1) (by omega)
    dsimp only at s0 s1
    rw [if_neg (by omega)] at s0 s1
    have f0 : m1 f (2 * i) = Int32.ofInt (F (2 * i)) := by rw [h1.1 f hf9, ← r0 f hf9]; exact hF _ (by omega)
    have f1 : m1 f (2 * i + 1) = Int32.ofInt (F (2 * i + 1)) := by rw [h1.1 f hf9, ← r0 f hf9]; exact hF _ (by omega)
    have g0 : m1 g (2 * i) = Int32.ofInt (H (2 * i)) := by rw [h1.1 g hg9, ← r0 g hg9]; exact hH _ (by omega)
    have g1 : m1 g (2 * i + 1) = Int32.ofInt (H (2 * i + 1)) := by rw [h1.1 g hg9, ← r0 g hg9]; exact hH _ (by omega)
    have hb := lm_br_lt 7 i
    have z : m1 231 (2 * lm_br 7 i + 1) = Int32.ofInt (lm_gk i) := by
      rw [h1.1 231 (fun e => h231 e.symm), ← r0 231 (fun e => h231 e.symm)]
      exact hk _ (by omega)
    have zb : 0 ≤ lm_gk i ∧ lm_gk i ≤ 3328 := lm_pk_b (2 * lm_br 7 i + 1)
    have bs0 := bS (2 * i) (by omega)
    have bs1 := bS (2 * i + 1) (by omega)
    have bf0 := bF (2 * i) (by omega)
    have bf1 := bF (2 * i + 1) (by omega)
    have bg0 := bH (2 * i) (by omega)
    have bg1 := bH (2 * i + 1) (by omega)
    have p00 := lm_mulb (A := 4095) (B := 4095) ⟨by omega, bf0.2⟩ ⟨by omega, bg0.2⟩
    have p01 := lm_mulb (A := 4095) (B := 4095) ⟨by omega, bf0.2⟩ ⟨by omega, bg1.2⟩
    have p10 := lm_mulb (A := 4095) (B := 4095) ⟨by omega, bf1.2⟩ ⟨by omega, bg0.2⟩
    have p11 := lm_mulb (A := 4095) (B := 4095) ⟨by omega, bf1.2⟩ ⟨by omega, bg1.2⟩
    have n00 := Int.mul_nonneg bf0.1 bg0.1
    have n01 := Int.mul_nonneg bf0.1 bg1.1
    have n10 := Int.mul_nonneg bf1.1 bg0.1
    have n11 := Int.mul_nonneg bf1.1 bg1.1
    have t := lm_tmb (a := F (2 * i + 1) * H (2 * i + 1)) (show (0 : Int) < 3329 by decide)
    have tn := Int.tmod_nonneg 3329 n11
    have pz := lm_mulb (A := 3329) (B := 3328) (a := (F (2 * i + 1) * H (2 * i + 1)).tmod 3329) (b := lm_gk i) ⟨by omega, by omega⟩ ⟨by omega, zb.2⟩
    have nz := Int.mul_nonneg tn zb.1
    refine ⟨?m', ?n', ?_, fun R K => lm_e73_3 ?run⟩
    case run =>
      unfold lm_q73_3
      rw [lm_K128]
      refine lm_geF (by omega) (by omega) (by omega) ?_
      repeat (first
    | ((with_reducible apply lm_sI); exact rfl)
    | ((with_reducible apply lm_sR); exact rfl)
    | ((with_reducible apply lm_sS); exact rfl; exact rfl)
    | ((with_reducible apply lm_sL); exact rfl)
    | ((with_reducible apply lm_sP); exact rfl; exact rfl)
    | ((with_reducible apply lm_sPL); exact rfl; exact rfl)
    | ((with_reducible apply lm_sAA); exact rfl; exact rfl)
    | ((with_reducible apply lm_sA); (first | exact rfl | assumption); omega)
    | ((with_reducible apply lm_sJ); (first | exact rfl | assumption); omega)
    | ((with_reducible apply lm_sB); (first | exact rfl | assumption); omega)
    | ((with_reducible apply lm_wA); (first | exact rfl | assumption); omega)
    | ((with_reducible apply lm_wJ); (first | exact rfl | assumption); omega)
    | ((with_reducible apply lm_wB); (first | exact rfl | assumption); omega)
    | ((with_reducible apply lm_sAl); (first | exact rfl | assumption); omega)
    | ((with_reducible apply lm_iW); decide))
      refine lm_cI (lm_u158_7 hi) ?_
      rw [lm_K1, lm_K2]
      simp only [lm_om, lm_oo]
      repeat (first
    | ((with_reducible apply lm_sI); exact rfl)
    | ((with_reducible apply lm_sR); exact rfl)
    | ((with_reducible apply lm_sS); exact rfl; exact rfl)
    | ((with_reducible apply lm_sL); exact rfl)
    | ((with_reducible apply lm_sP); exact rfl; exact rfl)
    | ((with_reducible apply lm_sPL); exact rfl; exact rfl)
    | ((with_reducible apply lm_sAA); exact rfl; exact rfl)
    | ((with_reducible apply lm_sA); (first | exact rfl | assumption); omega)
    | ((with_reducible apply lm_sJ); (first | exact rfl | assumption); omega)
    | ((with_reducible apply lm_sB); (first | exact rfl | assumption); omega)
    | ((with_reducible apply lm_wA); (first | exact rfl | assumption); omega)
    | ((with_reducible apply lm_wJ); (first | exact rfl | assumption); omega)
    | ((with_reducible apply lm_wB); (first | exact rfl | assumption); omega)
    | ((with_reducible apply lm_sAl); (first | exact rfl | assumption); omega)
    | ((with_reducible apply lm_iW); decide))
      exact K
    · refine ⟨en, fun q hq => by rw [lm_u_row hq, lm_u_row hq]; exact h1.1 q hq, fun j hj => ?_⟩
      dsimp only
      by_cases c : j = 2 * i
      · subst c
        rw [lm_u_ne (by omega), lm_u_eq, if_pos (by omega), s0, f0, g0, f1, g1, z, lm_il (by omega) (by omega), lm_il (by omega) (by omega), lm_il (by omega) (by omega), lm_il (by omega) (by omega), lm_il (by omega) (by omega), lm_il (by omega) (by omega), lm_LN, lm_LM, lm_LM, lm_LR (by omega) (by omega) (by decide) (by decide)]
        rw [lm_LM, lm_LA, lm_LA, lm_LR (by show _ < _ + (F (2 * i + 1) * H (2 * i + 1)).tmod 3329 * lm_gk i; omega) (by show _ + (F (2 * i + 1) * H (2 * i + 1)).tmod 3329 * lm_gk i < _; omega) (by decide) (by decide), ln_li]
        unfold lm_ap
        rw [if_pos (by omega), show 2 * i / 2 = i by omega, ← Int.add_assoc]
        congr 1
        exact Int.tmod_eq_emod_of_nonneg (by show 0 ≤ _ + (F (2 * i + 1) * H (2 * i + 1)).tmod 3329 * lm_gk i; omega)
      · by_cases c1 : j = 2 * i + 1
        · subst c1
          rw [lm_u_eq, lm_u_ne (by omega), if_pos (by omega), s1, f0, g0, f1, g1, lm_il (by omega) (by omega), lm_il (by omega) (by omega), lm_il (by omega) (by omega), lm_il (by omega) (by omega), lm_il (by omega) (by omega), lm_LN, lm_LM, lm_LM, lm_LA, lm_LA, lm_LR (by omega) (by omega) (by decide) (by decide), ln_li]
          unfold lm_ap
          rw [if_neg (by omega), show 2 * i + 1 - 1 = 2 * i by omega, ← Int.add_assoc]
          congr 1
          exact Int.tmod_eq_emod_of_nonneg (by omega)
        · rw [lm_u_ne (by omega), lm_u_ne (by omega), h1.2 j hj]
          dsimp only
          by_cases c2 : j < 2 * i
          · rw [if_pos c2, if_pos (by omega)]
          · rw [if_neg c2, if_neg (by omega)]) 128 0 (by omega) m n ⟨rfl, hS.hl fun j _ => by rw [if_neg (by omega)]⟩
  subst hn
  refine ⟨m', ?_, h1.hl fun j hj => by rw [if_pos (by omega)]⟩
  refine lm_cal_of (Y := lm_m73) rfl rfl (lm_e73_0 ?_)
  unfold lm_q73_0
  rw [lm_K0]
  refine h2 _ (lm_e73_3 ?_)
  unfold lm_q73_3
  rw [lm_K128]
  exact lm_geT (by omega) (by omega) (by omega) rfl
end LMRN2
