/-! ===== the reference's transform of Dsa ===== -/
def lm_qk (e : Nat) : Int := ((1753 ^ e % 8380417 : Nat) : Int)
theorem lm_qk_b (e : Nat) : 0 ≤ lm_qk e ∧ lm_qk e ≤ 8380416 := by
  unfold lm_qk
  have := Nat.mod_lt (1753 ^ e) (show 0 < 8380417 by decide)
  omega
theorem lm_qk_cg (e : Nat) : ln_cg 8380417 (lm_qk (e % 512)) ((1753 : Int) ^ e) := by
  have h : ln_cg 8380417 ((1753 : Int) ^ 512) 1 := ln_cg.ofe (by decide +kernel)
  have h1 : ln_cg 8380417 (lm_qk (e % 512)) ((1753 : Int) ^ (e % 512)) := by
    refine ln_cg.ofe ?_
    unfold lm_qk
    rw [show ((1753 : Int) ^ (e % 512)) = ((1753 ^ (e % 512) : Nat) : Int) by rw [Int.natCast_pow]; rfl]
    generalize 1753 ^ (e % 512) = A
    omega
  refine h1.tr ?_
  have e1 : (1753 : Int) ^ e = ((1753 : Int) ^ 512) ^ (e / 512) * (1753 : Int) ^ (e % 512) := by
    rw [← Int.pow_mul, ← Int.pow_add, Nat.div_add_mod]
  rw [e1]
  have h2 := (h.pw (e / 512)).mu (ln_cg.rf (q := 8380417) (a := (1753 : Int) ^ (e % 512)))
  rw [Int.one_pow, Int.one_mul] at h2
  exact h2.sy
set_option maxRecDepth 100000 in
theorem lm_gm_1753 : ∀ i, i < 256 → lm_gm lm_zd (256 + i) % 8380417 = ((1753 ^ (2 * lm_br 8 i + 1) : Nat) : Int) % 8380417 := by decide +kernel
theorem lm_qk_gm {i : Nat} (hi : i < 256) (t : Nat) : ln_cg 8380417 (lm_qk ((2 * lm_br 8 i + 1) * t % 512)) (lm_gm lm_zd (256 + i) ^ t) := by
  refine (lm_qk_cg _).tr ?_
  rw [Int.pow_mul]
  refine ln_cg.pw ?_ t
  refine (ln_cg.ofe ?_).sy
  rw [lm_gm_1753 i hi, Int.natCast_pow]
  rfl
theorem lm_qk_dD {i : Nat} (t : Nat) : ln_cg 8380417 (lm_qk ((512 - (2 * lm_br 8 i + 1) * t % 512) % 512)) (lm_dD i ^ t) := by
  have hb := lm_br_lt 8 i
  have hz : 2 * lm_br 8 i + 1 ≤ 512 := by omega
  have e : (512 - (2 * lm_br 8 i + 1) * t % 512) % 512 = (512 - (2 * lm_br 8 i + 1)) * t % 512 := by
    rw [Nat.sub_mul]
    have := Nat.mul_le_mul_right t hz
    omega
  rw [e]
  refine (lm_qk_cg _).tr ?_
  rw [Int.pow_mul]
  refine ln_cg.pw ?_ t
  refine (ln_cg.ofe ?_).sy
  unfold lm_dD lm_ddk
  rw [show ((1753 : Int) ^ (512 - (2 * lm_br 8 i + 1))) = ((1753 ^ (512 - (2 * lm_br 8 i + 1)) : Nat) : Int) by rw [Int.natCast_pow]; rfl]
  generalize 1753 ^ (512 - (2 * lm_br 8 i + 1)) = A
  omega
section LMRN3
variable {sc : lm_H} {d : Nat} {m m0 : lm_MI} {n : lm_ML} {x : lm_H × Nat × Nat} {p : Nat} {G : Nat → Int}
def lm_W9 (G : Nat → Int) (j : Nat) : Int := ln_sg 256 (fun t => G t * lm_qk ((2 * lm_br 8 j + 1) * t % 512))
theorem lm_W9_b (h : lm_rg 8380416 G) {j : Nat} : 0 ≤ lm_W9 G j ∧ lm_W9 G j ≤ 256 * 70231372333056 := lm_sg_bd (B := 70231372333056) fun t ht => by
  have h1 := h t ht
  have h2 := lm_qk_b ((2 * lm_br 8 j + 1) * t % 512)
  have h3 := lm_mulb (A := 8380416) (B := 8380416) ⟨by omega, h1.2⟩ ⟨by omega, h2.2⟩
  exact ⟨Int.mul_nonneg h1.1 h2.1, h3.2⟩
theorem lm_W9_pt (h : lm_rg 8380416 G) {j : Nat} (hj : j < 256) : (lm_W9 G j).tmod 8380417 = ln_pt G j % 8380417 := by
  rw [Int.tmod_eq_emod_of_nonneg (lm_W9_b h).1]
  refine ln_cg.eq ?_
  unfold lm_W9 ln_pt
  exact lm_sg_cg fun t ht => ln_cg.rf.mu (lm_qk_gm hj t)
theorem lm_a511 {a : Nat} (h : a < 4294967296) : Int32.ofNat a &&& Int32.ofInt 511 = Int32.ofNat (a % 512) := lm_andm (a := a) (k := 9) h (by decide)
/-- one sum of evaluate -/
theorem lm_l90i {i : Nat} (hi : i < 256) (hp : lm_ar p = some (0, 256)) (hk : ∀ i, i < 512 → m 268 i = Int32.ofInt (lm_qk i)) (hr : lm_rg 8380416 G) (hG : ∀ j, j < 256 → m p j = Int32.ofInt (G j)) {R : Except Nat lm_R × lm_S} (K : lm_rn sc d lm_m90.2.2.2.2.1 (lm_reg lm_m90.2.2.2.2.2) (26, [(0, .ref 203), (1, .ref p), (2, .int (Int32.ofNat i)), (3, .int (Int32.ofNat (2 * lm_br 8 i + 1))), (4, .long (Int64.ofInt (lm_W9 G i))), (6, .int (Int32.ofNat 256))], []) (lm_w m n x) = some R) : lm_rn sc d lm_m90.2.2.2.2.1 (lm_reg lm_m90.2.2.2.2.2) (26, [(0, .ref 203), (1, .ref p), (2, .int (Int32.ofNat i)), (3, .int (Int32.ofNat (2 * lm_br 8 i + 1))), (4, .long (Int64.ofInt 0)), (6, .int (Int32.ofNat 0))], []) (lm_w m n x) = some R := by
  have hb := lm_br_lt 8 i
  obtain ⟨m', n', ⟨e1, e2⟩, h2⟩ := lm_lp (sc := sc) (d := d) (b := 256) (hs := lm_m90.2.2.2.2.1) (code := lm_reg lm_m90.2.2.2.2.2) (x := x) (fr := fun t => (26, [(0, .ref 203), (1, .ref p), (2, .int (Int32.ofNat i)), (3, .int (Int32.ofNat (2 * lm_br 8 i + 1))), (4, .long (Int64.ofInt (ln_sg t (fun t => G t * lm_qk ((2 * lm_br 8 i + 1) * t % 512))))), (6, .int (Int32.ofNat t))], [])) (I := fun t m' n' => m' = m ∧ n' = n) (fun t ht m1 n1 ⟨e1, e2⟩ => by
    refine ⟨m, n, ⟨rfl, rfl⟩, fun R K => lm_e90_26 ?_⟩
    subst e1
    subst e2
    have hz : (2 * lm_br 8 i + 1) * t ≤ 511 * 256 := Nat.mul_le_mul (show 2 * lm_br 8 i + 1 ≤ 511 by omega) (Nat.le_of_lt ht)
    have hm := Nat.mod_lt ((2 * lm_br 8 i + 1) * t) (show 0 < 512 by decide)
    unfold lm_q90_26
    rw [lm_K256, lm_om, lm_a511 (by omega)]
    refine lm_geF (by omega) (by omega) (by omega) ?_
    repeat (first
    | ((with_reducible apply lm_sI); exact rfl)
    | ((with_reducible apply lm_sR); exact rfl)
    | ((with_reducible apply lm_sS); exact rfl; exact rfl)
    | ((with_reducible apply lm_sL); exact rfl)
    | ((with_reducible apply lm_sP); exact rfl; exact rfl)
    | ((with_reducible apply lm_sPL); exact rfl; exact rfl)
    | ((with_reducible apply lm_sAA); exact rfl; exact rfl)
    | ((with_reducible apply lm_sA); (first | exact rfl | assumption); omega)
    | ((with_reducible apply lm_sJ); (first | exact rfl | assumption); omega)
    | ((with_reducible apply lm_sB); (first | exact rfl | assumption); omega)
    | ((with_reducible apply lm_wA); (first | exact rfl | assumption); omega)
    | ((with_reducible apply lm_wJ); (first | exact rfl | assumption); omega)
    | ((with_reducible apply lm_wB); (first | exact rfl | assumption); omega)
    | ((with_reducible apply lm_sAl); (first | exact rfl | assumption); omega)
    | ((with_reducible apply lm_iW); decide))
    have b0 := hr t ht
    have bk := lm_qk_b ((2 * lm_br 8 i + 1) * t % 512)
    rw [hk _ hm, hG _ ht, lm_il (by omega) (by omega), lm_il (by omega) (by omega), lm_LM, lm_LA, lm_K1, lm_oo]
    exact K) 256 0 (by omega) m n ⟨rfl, rfl⟩
  subst e1
  subst e2
  exact h2 R K
/-- evaluate -/
theorem lm_u90 (hp : lm_ar p = some (0, 256)) (hk : ∀ i, i < 512 → m 268 i = Int32.ofInt (lm_qk i)) (hr : lm_rg 8380416 G) (hG : ∀ j, j < 256 → m p j = Int32.ofInt (G j)) : ∃ m' n', lm_cal sc (d + 2) 90 [.ref 203, .ref p] (lm_w m n x) = some (.ok none, lm_w m' n' x) ∧ lm_PA m m' p (fun j => ln_pt G j % 8380417) ∧ ∀ q, q ≠ 230 → n' q = n q := by
  obtain ⟨m1, n1, ⟨em, h0, h1⟩, k1⟩ := lm_lp (sc := sc) (d := d + 1) (b := 256) (hs := lm_m90.2.2.2.2.1) (code := lm_reg lm_m90.2.2.2.2.2) (x := x) (fr := fun i => (2, [(0, .ref 203), (1, .ref p), (2, .int (Int32.ofNat i))], [])) (I := fun i m' n' => m' = m ∧ (∀ q, q ≠ 230 → n' q = n q) ∧ ∀ j, j < i → n' 230 j = Int64.ofInt ((lm_W9 G j).tmod 8380417)) (fun i hi m1 n1 ⟨em, h0, h1⟩ => by
    subst em
    refine ⟨?m', ?n', ?_, fun R K => lm_e90_2 ?run⟩
    case run =>
      unfold lm_q90_2
      rw [lm_K256]
      refine lm_geF (by omega) (by omega) (by omega) ?_
      refine lm_cI (lm_u158_8 hi) ?_
      rw [lm_K2, lm_K1, lm_om, lm_oo, lm_LN, lm_K0]
      refine lm_l90i hi hp hk hr hG (lm_e90_26 ?_)
      unfold lm_q90_26
      rw [lm_K256]
      refine lm_geT (by omega) (by omega) (by omega) ?_
      repeat (first
    | ((with_reducible apply lm_sI); exact rfl)
    | ((with_reducible apply lm_sR); exact rfl)
    | ((with_reducible apply lm_sS); exact rfl; exact rfl)
    | ((with_reducible apply lm_sL); exact rfl)
    | ((with_reducible apply lm_sP); exact rfl; exact rfl)
    | ((with_reducible apply lm_sPL); exact rfl; exact rfl)
    | ((with_reducible apply lm_sAA); exact rfl; exact rfl)
    | ((with_reducible apply lm_sA); (first | exact rfl | assumption); omega)
    | ((with_reducible apply lm_sJ); (first | exact rfl | assumption); omega)
    | ((with_reducible apply lm_sB); (first | exact rfl | assumption); omega)
    | ((with_reducible apply lm_wA); (first | exact rfl | assumption); omega)
    | ((with_reducible apply lm_wJ); (first | exact rfl | assumption); omega)
    | ((with_reducible apply lm_wB); (first | exact rfl | assumption); omega)
    | ((with_reducible apply lm_sAl); (first | exact rfl | assumption); omega)
    | ((with_reducible apply lm_iW); decide))
      rw [lm_K1, lm_oo]
      exact K
    · have b0 := lm_W9_b hr (j := i)
      refine ⟨rfl, fun q hq => by rw [lm_u_row hq]; exact h0 q hq, fun j hj => ?_⟩
      by_cases c : j = i
      · subst c
        rw [lm_u_eq, lm_LN, lm_LR (by omega) (by omega) (by decide) (by decide)]
        rfl
      · rw [lm_u_ne (by omega)]
        exact h1 j (by omega)) 256 0 (by omega) m n ⟨rfl, fun _ _ => rfl, fun j hj => absurd hj (by omega)⟩
  subst em
  obtain ⟨m2, n2, ⟨en, g0, g1⟩, k2⟩ := lm_lp (sc := sc) (d := d + 1) (b := 256) (hs := lm_m90.2.2.2.2.1) (code := lm_reg lm_m90.2.2.2.2.2) (x := x) (fr := fun i => (85, [(0, .ref 203), (1, .ref p), (2, .int (Int32.ofNat i))], [])) (I := fun i m' n' => n' = n1 ∧ (∀ q, q ≠ p → m' q = m1 q) ∧ ∀ j, j < i → m' p j = Int32.ofInt ((lm_W9 G j).tmod 8380417)) (fun i hi m2 n2 ⟨en, g0, g1⟩ => by
    refine ⟨?m2', ?n2', ?_, fun R K => lm_e90_85 ?run2⟩
    case run2 =>
      unfold lm_q90_85
      rw [lm_K256]
      refine lm_geF (by omega) (by omega) (by omega) ?_
      repeat (first
    | ((with_reducible apply lm_sI); exact rfl)
    | ((with_reducible apply lm_sR); exact rfl)
    | ((with_reducible apply lm_sS); exact rfl; exact rfl)
    | ((with_reducible apply lm_sL); exact rfl)
    | ((with_reducible apply lm_sP); exact rfl; exact rfl)
    | ((with_reducible apply lm_sPL); exact rfl; exact rfl)
    | ((with_reducible apply lm_sAA); exact rfl; exact rfl)
    | ((with_reducible apply lm_sA); (first | exact rfl | assumption); omega)
    | ((with_reducible apply lm_sJ); (first | exact rfl | assumption); omega)
    | ((with_reducible apply lm_sB); (first | exact rfl | assumption); omega)
    | ((with_reducible apply lm_wA); (first | exact rfl | assumption); omega)
    | ((with_reducible apply lm_wJ); (first | exact rfl | assumption); omega)
    | ((with_reducible apply lm_wB); (first | exact rfl | assumption); omega)
    | ((with_reducible apply lm_sAl); (first | exact rfl | assumption); omega)
    | ((with_reducible apply lm_iW); decide))
      rw [lm_K1, lm_oo]
      exact K
    · refine ⟨en, fun q hq => (lm_u_row hq).trans (g0 q hq), fun j hj => ?_⟩
      by_cases c : j = i
      · subst c
        rw [lm_u_eq, en, h1 j (by omega), ln_li]
      · rw [lm_u_ne (by omega)]
        exact g1 j (by omega)) 256 0 (by omega) m1 n1 ⟨rfl, fun _ _ => rfl, fun j hj => absurd hj (by omega)⟩
  subst en
  refine ⟨m2, n2, ?_, ⟨g0, fun j hj => by rw [g1 j hj, lm_W9_pt hr hj]⟩, h0⟩
  refine lm_cal_of (Y := lm_m90) rfl rfl (lm_e90_0 ?_)
  unfold lm_q90_0
  rw [lm_K0]
  refine k1 _ (lm_e90_2 ?_)
  unfold lm_q90_2
  rw [lm_K256]
  refine lm_geT (by omega) (by omega) (by omega) ?_
  rw [lm_K0]
  refine k2 _ (lm_e90_85 ?_)
  unfold lm_q90_85
  rw [lm_K256]
  exact lm_geT (by omega) (by omega) (by omega) rfl
end LMRN3
