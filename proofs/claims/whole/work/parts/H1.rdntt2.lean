/-! ===== Dsa: the reference's way back, products; the class's rows ===== -/
section LMRN4
variable {sc : lm_H} {d : Nat} {m m0 : lm_MI} {n : lm_ML} {x : lm_H × Nat × Nat} {p : Nat} {G : Nat → Int}
def lm_WA (G : Nat → Int) (j : Nat) : Int := ln_sg 256 (fun t => G t * lm_qk ((512 - (2 * lm_br 8 t + 1) * j % 512) % 512))
theorem lm_WA_b (h : lm_rg 8380416 G) {j : Nat} : 0 ≤ lm_WA G j ∧ lm_WA G j ≤ 256 * 70231372333056 := lm_sg_bd (B := 70231372333056) fun t ht => by
  have h1 := h t ht
  have h2 := lm_qk_b ((512 - (2 * lm_br 8 t + 1) * j % 512) % 512)
  have h3 := lm_mulb (A := 8380416) (B := 8380416) ⟨by omega, h1.2⟩ ⟨by omega, h2.2⟩
  exact ⟨Int.mul_nonneg h1.1 h2.1, h3.2⟩
theorem lm_WA_ut (h : lm_rg 8380416 G) {j : Nat} : ((lm_WA G j).tmod 8380417 * 8347681).tmod 8380417 = lm_ut G j % 8380417 := by
  have h0 := lm_WA_b h (j := j)
  have h1 := Int.emod_nonneg (lm_WA G j) (show (8380417 : Int) ≠ 0 by decide)
  rw [Int.tmod_eq_emod_of_nonneg h0.1, Int.tmod_eq_emod_of_nonneg (by omega)]
  refine ln_cg.eq ?_
  unfold lm_ut
  refine (ln_cg.em.tr ?_).mu ln_cg.rf
  unfold lm_WA
  exact lm_sg_cg fun t ht => ln_cg.rf.mu (lm_qk_dD j)
/-- one sum of interpolate -/
theorem lm_l93i {i : Nat} (hi : i < 256) (hp : lm_ar p = some (0, 256)) (hk : ∀ i, i < 512 → m 268 i = Int32.ofInt (lm_qk i)) (hr : lm_rg 8380416 G) (hG : ∀ j, j < 256 → m p j = Int32.ofInt (G j)) {R : Except Nat lm_R × lm_S} (K : lm_rn sc (d + 1) lm_m93.2.2.2.2.1 (lm_reg lm_m93.2.2.2.2.2) (14, [(0, .ref 203), (1, .ref p), (2, .int (Int32.ofNat i)), (3, .long (Int64.ofInt (lm_WA G i))), (5, .int (Int32.ofNat 256))], []) (lm_w m n x) = some R) : lm_rn sc (d + 1) lm_m93.2.2.2.2.1 (lm_reg lm_m93.2.2.2.2.2) (14, [(0, .ref 203), (1, .ref p), (2, .int (Int32.ofNat i)), (3, .long (Int64.ofInt 0)), (5, .int (Int32.ofNat 0))], []) (lm_w m n x) = some R := by
  obtain ⟨m', n', ⟨e1, e2⟩, h2⟩ := lm_lp (sc := sc) (d := d + 1) (b := 256) (hs := lm_m93.2.2.2.2.1) (code := lm_reg lm_m93.2.2.2.2.2) (x := x) (fr := fun t => (14, [(0, .ref 203), (1, .ref p), (2, .int (Int32.ofNat i)), (3, .long (Int64.ofInt (ln_sg t (fun t => G t * lm_qk ((512 - (2 * lm_br 8 t + 1) * i % 512) % 512))))), (5, .int (Int32.ofNat t))], [])) (I := fun t m' n' => m' = m ∧ n' = n) (fun t ht m1 n1 ⟨e1, e2⟩ => by
    refine ⟨m, n, ⟨rfl, rfl⟩, fun R K => lm_e93_14 ?_⟩
    subst e1
    subst e2
    have hb := lm_br_lt 8 t
    have hz : (2 * lm_br 8 t + 1) * i ≤ 511 * 256 := Nat.mul_le_mul (show 2 * lm_br 8 t + 1 ≤ 511 by omega) (Nat.le_of_lt hi)
    have hm := Nat.mod_lt ((2 * lm_br 8 t + 1) * i) (show 0 < 512 by decide)
    have hm2 := Nat.mod_lt (512 - (2 * lm_br 8 t + 1) * i % 512) (show 0 < 512 by decide)
    unfold lm_q93_14
    rw [lm_K256]
    refine lm_geF (by omega) (by omega) (by omega) ?_
    repeat (first
    | ((with_reducible apply lm_sI); exact rfl)
    | ((with_reducible apply lm_sR); exact rfl)
    | ((with_reducible apply lm_sS); exact rfl; exact rfl)
    | ((with_reducible apply lm_sL); exact rfl)
    | ((with_reducible apply lm_sP); exact rfl; exact rfl)
    | ((with_reducible apply lm_sPL); exact rfl; exact rfl)
    | ((with_reducible apply lm_sAA); exact rfl; exact rfl)
    | ((with_reducible apply lm_sA); (first | exact rfl | assumption); omega)
    | ((with_reducible apply lm_sJ); (first | exact rfl | assumption); omega)
    | ((with_reducible apply lm_sB); (first | exact rfl | assumption); omega)
    | ((with_reducible apply lm_wA); (first | exact rfl | assumption); omega)
    | ((with_reducible apply lm_wJ); (first | exact rfl | assumption); omega)
    | ((with_reducible apply lm_wB); (first | exact rfl | assumption); omega)
    | ((with_reducible apply lm_sAl); (first | exact rfl | assumption); omega)
    | ((with_reducible apply lm_iW); decide))
    refine lm_cI (lm_u158_8 ht) ?_
    rw [lm_K2, lm_K1, lm_om, lm_oo, lm_om, lm_a511 (by omega), lm_K512, lm_osu (by omega), lm_a511 (by omega)]
    repeat (first
    | ((with_reducible apply lm_sI); exact rfl)
    | ((with_reducible apply lm_sR); exact rfl)
    | ((with_reducible apply lm_sS); exact rfl; exact rfl)
    | ((with_reducible apply lm_sL); exact rfl)
    | ((with_reducible apply lm_sP); exact rfl; exact rfl)
    | ((with_reducible apply lm_sPL); exact rfl; exact rfl)
    | ((with_reducible apply lm_sAA); exact rfl; exact rfl)
    | ((with_reducible apply lm_sA); (first | exact rfl | assumption); omega)
    | ((with_reducible apply lm_sJ); (first | exact rfl | assumption); omega)
    | ((with_reducible apply lm_sB); (first | exact rfl | assumption); omega)
    | ((with_reducible apply lm_wA); (first | exact rfl | assumption); omega)
    | ((with_reducible apply lm_wJ); (first | exact rfl | assumption); omega)
    | ((with_reducible apply lm_wB); (first | exact rfl | assumption); omega)
    | ((with_reducible apply lm_sAl); (first | exact rfl | assumption); omega)
    | ((with_reducible apply lm_iW); decide))
    have b0 := hr t ht
    have bk := lm_qk_b ((512 - (2 * lm_br 8 t + 1) * i % 512) % 512)
    rw [hk _ hm2, hG _ ht, lm_il (by omega) (by omega), lm_il (by omega) (by omega), lm_LM, lm_LA, lm_oo]
    exact K) 256 0 (by omega) m n ⟨rfl, rfl⟩
  subst e1
  subst e2
  exact h2 R K
/-- interpolate -/
theorem lm_u93 (hp : lm_ar p = some (0, 256)) (hk : ∀ i, i < 512 → m 268 i = Int32.ofInt (lm_qk i)) (hr : lm_rg 8380416 G) (hG : ∀ j, j < 256 → m p j = Int32.ofInt (G j)) : ∃ m' n', lm_cal sc (d + 2) 93 [.ref 203, .ref p] (lm_w m n x) = some (.ok none, lm_w m' n' x) ∧ lm_PA m m' p (fun j => lm_ut G j % 8380417) ∧ ∀ q, q ≠ 230 → n' q = n q := by
  obtain ⟨m1, n1, ⟨em, h0, h1⟩, k1⟩ := lm_lp (sc := sc) (d := d + 1) (b := 256) (hs := lm_m93.2.2.2.2.1) (code := lm_reg lm_m93.2.2.2.2.2) (x := x) (fr := fun i => (2, [(0, .ref 203), (1, .ref p), (2, .int (Int32.ofNat i))], [])) (I := fun i m' n' => m' = m ∧ (∀ q, q ≠ 230 → n' q = n q) ∧ ∀ j, j < i → n' 230 j = Int64.ofInt (((lm_WA G j).tmod 8380417 * 8347681).tmod 8380417)) (fun i hi m1 n1 ⟨em, h0, h1⟩ => by
    subst em
    refine ⟨?m', ?n', ?_, fun R K => lm_e93_2 ?run⟩
    case run =>
      unfold lm_q93_2
      rw [lm_K256]
      refine lm_geF (by omega) (by omega) (by omega) ?_
      rw [lm_LN, lm_K0]
      refine lm_l93i hi hp hk hr hG (lm_e93_14 ?_)
      unfold lm_q93_14
      rw [lm_K256]
      refine lm_geT (by omega) (by omega) (by omega) ?_
      repeat (first
    | ((with_reducible apply lm_sI); exact rfl)
    | ((with_reducible apply lm_sR); exact rfl)
    | ((with_reducible apply lm_sS); exact rfl; exact rfl)
    | ((with_reducible apply lm_sL); exact rfl)
    | ((with_reducible apply lm_sP); exact rfl; exact rfl)
    | ((with_reducible apply lm_sPL); exact rfl; exact rfl)
    | ((with_reducible apply lm_sAA); exact rfl; exact rfl)
    | ((with_reducible apply lm_sA); (first | exact rfl | assumption); omega)
    | ((with_reducible apply lm_sJ); (first | exact rfl | assumption); omega)
    | ((with_reducible apply lm_sB); (first | exact rfl | assumption); omega)
    | ((with_reducible apply lm_wA); (first | exact rfl | assumption); omega)
    | ((with_reducible apply lm_wJ); (first | exact rfl | assumption); omega)
    | ((with_reducible apply lm_wB); (first | exact rfl | assumption); omega)
    | ((with_reducible apply lm_sAl); (first | exact rfl | assumption); omega)
    | ((with_reducible apply lm_iW); decide))
      rw [lm_K1, lm_oo]
      exact K
    · have val : ∀ j, lm_remL ((lm_remL (Int64.ofInt (lm_WA G j)) (Int64.ofNat 8380417)) * (Int64.ofNat 8347681)) (Int64.ofNat 8380417) = Int64.ofInt (((lm_WA G j).tmod 8380417 * 8347681).tmod 8380417) := fun j => by
        have b0 := lm_WA_b hr (j := j)
        have t := lm_tmb (a := lm_WA G j) (show (0 : Int) < 8380417 by decide)
        rw [lm_LN, lm_LN, lm_LR (by omega) (by omega) (by decide) (by decide)]
        rw [lm_LM, lm_LR (by show _ < (lm_WA G j).tmod 8380417 * 8347681; omega) (by show (lm_WA G j).tmod 8380417 * 8347681 < _; omega) (by decide) (by decide)]
        rfl
      refine ⟨rfl, fun q hq => by rw [lm_u_row hq]; exact h0 q hq, fun j hj => ?_⟩
      by_cases c : j = i
      · subst c
        rw [lm_u_eq, val]
      · rw [lm_u_ne (by omega)]
        exact h1 j (by omega)) 256 0 (by omega) m n ⟨rfl, fun _ _ => rfl, fun j hj => absurd hj (by omega)⟩
  subst em
  obtain ⟨m2, n2, ⟨en, g0, g1⟩, k2⟩ := lm_lp (sc := sc) (d := d + 1) (b := 256) (hs := lm_m93.2.2.2.2.1) (code := lm_reg lm_m93.2.2.2.2.2) (x := x) (fr := fun i => (95, [(0, .ref 203), (1, .ref p), (2, .int (Int32.ofNat i))], [])) (I := fun i m' n' => n' = n1 ∧ (∀ q, q ≠ p → m' q = m1 q) ∧ ∀ j, j < i → m' p j = Int32.ofInt (((lm_WA G j).tmod 8380417 * 8347681).tmod 8380417)) (fun i hi m2 n2 ⟨en, g0, g1⟩ => by
    refine ⟨?m2', ?n2', ?_, fun R K => lm_e93_95 ?run2⟩
    case run2 =>
      unfold lm_q93_95
      rw [lm_K256]
      refine lm_geF (by omega) (by omega) (by omega) ?_
      repeat (first
    | ((with_reducible apply lm_sI); exact rfl)
    | ((with_reducible apply lm_sR); exact rfl)
    | ((with_reducible apply lm_sS); exact rfl; exact rfl)
    | ((with_reducible apply lm_sL); exact rfl)
    | ((with_reducible apply lm_sP); exact rfl; exact rfl)
    | ((with_reducible apply lm_sPL); exact rfl; exact rfl)
    | ((with_reducible apply lm_sAA); exact rfl; exact rfl)
    | ((with_reducible apply lm_sA); (first | exact rfl | assumption); omega)
    | ((with_reducible apply lm_sJ); (first | exact rfl | assumption); omega)
    | ((with_reducible apply lm_sB); (first | exact rfl | assumption); omega)
    | ((with_reducible apply lm_wA); (first | exact rfl | assumption); omega)
    | ((with_reducible apply lm_wJ); (first | exact rfl | assumption); omega)
    | ((with_reducible apply lm_wB); (first | exact rfl | assumption); omega)
    | ((with_reducible apply lm_sAl); (first | exact rfl | assumption); omega)
    | ((with_reducible apply lm_iW); decide))
      rw [lm_K1, lm_oo]
      exact K
    · refine ⟨en, fun q hq => (lm_u_row hq).trans (g0 q hq), fun j hj => ?_⟩
      by_cases c : j = i
      · subst c
        rw [lm_u_eq, en, h1 j (by omega), ln_li]
      · rw [lm_u_ne (by omega)]
        exact g1 j (by omega)) 256 0 (by omega) m1 n1 ⟨rfl, fun _ _ => rfl, fun j hj => absurd hj (by omega)⟩
  subst en
  refine ⟨m2, n2, ?_, ⟨g0, fun j hj => by rw [g1 j hj, lm_WA_ut hr]⟩, h0⟩
  refine lm_cal_of (Y := lm_m93) rfl rfl (lm_e93_0 ?_)
  unfold lm_q93_0
  rw [lm_K0]
  refine k1 _ (lm_e93_2 ?_)
  unfold lm_q93_2
  rw [lm_K256]
  refine lm_geT (by omega) (by omega) (by omega) ?_
  rw [lm_K0]
  refine k2 _ (lm_e93_95 ?_)
  unfold lm_q93_95
  rw [lm_K256]
  exact lm_geT (by omega) (by omega) (by omega) rfl
/-- addProducts -/
theorem lm_u92 {f g : Nat} {S F H : Nat → Int} (hp : lm_ar p = some (0, 256)) (hf : lm_ar f = some (0, 256)) (hg : lm_ar g = some (0, 256)) (hfp : f ≠ p) (hgp : g ≠ p) (hS : lm_PA m0 m p S) (hF : ∀ j, j < 256 → m f j = Int32.ofInt (F j)) (hH : ∀ j, j < 256 → m g j = Int32.ofInt (H j)) (bS : lm_bnd 8380416 S) (bF : lm_bnd 8380416 F) (bH : lm_bnd 8380416 H) : ∃ m', lm_cal sc (d + 1) 92 [.ref p, .ref f, .ref g] (lm_w m n x) = some (.ok none, lm_w m' n x) ∧ lm_PA m0 m' p (fun j => (S j + F j * H j).tmod 8380417) := by
  obtain ⟨m', n', ⟨hn, h1⟩, h2⟩ := lm_lp (sc := sc) (d := d) (b := 256) (hs := lm_m92.2.2.2.2.1) (code := lm_reg lm_m92.2.2.2.2.2) (x := x) (fr := fun i => (2, [(0, .ref p), (1, .ref f), (2, .ref g), (3, .int (Int32.ofNat i))], [])) (I := fun i m' n' => n' = n ∧ lm_PA m0 m' p (fun j => if j < i then (S j + F j * H j).tmod 8380417 else S j)) (fun i hi m1 n1 ⟨en, h1⟩ => by
    have e := h1.2 i hi
    dsimp only at e
    rw [if_neg (by omega)] at e
    have b0 := bS i hi
    have b1 := bF i hi
    have b2 := bH i hi
    have b3 := lm_mulb b1 b2
    have ef : m1 f i = Int32.ofInt (F i) := by rw [h1.1 f hfp, ← hS.1 f hfp]; exact hF i hi
    have eg : m1 g i = Int32.ofInt (H i) := by rw [h1.1 g hgp, ← hS.1 g hgp]; exact hH i hi
    refine ⟨lm_u m1 p i (Int32.ofInt ((S i + F i * H i).tmod 8380417)), n1, ⟨en, fun q hq => (lm_u_row hq).trans (h1.1 q hq), fun j hj => ?_⟩, fun R K => lm_e92_2 ?_⟩
    · dsimp only
      by_cases c : j = i
      · subst c
        rw [lm_u_eq, if_pos (by omega)]
      · rw [lm_u_ne (by omega), h1.2 j hj]
        dsimp only
        by_cases c2 : j < i
        · rw [if_pos c2, if_pos (by omega)]
        · rw [if_neg c2, if_neg (by omega)]
    · unfold lm_q92_2
      rw [lm_K256]
      refine lm_geF (by omega) (by omega) (by omega) ?_
      repeat (first
    | ((with_reducible apply lm_sI); exact rfl)
    | ((with_reducible apply lm_sR); exact rfl)
    | ((with_reducible apply lm_sS); exact rfl; exact rfl)
    | ((with_reducible apply lm_sL); exact rfl)
    | ((with_reducible apply lm_sP); exact rfl; exact rfl)
    | ((with_reducible apply lm_sPL); exact rfl; exact rfl)
    | ((with_reducible apply lm_sAA); exact rfl; exact rfl)
    | ((with_reducible apply lm_sA); (first | exact rfl | assumption); omega)
    | ((with_reducible apply lm_sJ); (first | exact rfl | assumption); omega)
    | ((with_reducible apply lm_sB); (first | exact rfl | assumption); omega)
    | ((with_reducible apply lm_wA); (first | exact rfl | assumption); omega)
    | ((with_reducible apply lm_wJ); (first | exact rfl | assumption); omega)
    | ((with_reducible apply lm_wB); (first | exact rfl | assumption); omega)
    | ((with_reducible apply lm_sAl); (first | exact rfl | assumption); omega)
    | ((with_reducible apply lm_iW); decide))
      rw [e, ef, eg, lm_il (by omega) (by omega), lm_il (by omega) (by omega), lm_il (by omega) (by omega), lm_LM, lm_LA, lm_LN, lm_LR (by omega) (by omega) (by decide) (by decide), ln_li, lm_K1, lm_oo]
      exact K) 256 0 (by omega) m n ⟨rfl, hS.hl fun j _ => by rw [if_neg (by omega)]⟩
  subst hn
  refine ⟨m', ?_, h1.hl fun j hj => by rw [if_pos hj]⟩
  refine lm_cal_of (Y := lm_m92) rfl rfl (lm_e92_0 ?_)
  unfold lm_q92_0
  rw [lm_K0]
  refine h2 _ (lm_e92_2 ?_)
  unfold lm_q92_2
  rw [lm_K256]
  exact lm_geT (by omega) (by omega) (by omega) rfl
/-- positive -/
theorem lm_u89 (hp : lm_ar p = some (0, 256)) (hS : lm_PA m0 m p G) (bS : lm_bnd 8380417 G) : ∃ m', lm_cal sc (d + 1) 89 [.ref p] (lm_w m n x) = some (.ok none, lm_w m' n x) ∧ lm_PA m0 m' p (fun j => G j % 8380417) := by
  obtain ⟨m', n', ⟨hn, h1⟩, h2⟩ := lm_lp (sc := sc) (d := d) (b := 256) (hs := lm_m89.2.2.2.2.1) (code := lm_reg lm_m89.2.2.2.2.2) (x := x) (fr := fun i => (2, [(0, .ref p), (1, .int (Int32.ofNat i))], [])) (I := fun i m' n' => n' = n ∧ lm_PA m0 m' p (fun j => if j < i then G j % 8380417 else G j)) (fun i hi m1 n1 ⟨en, h1⟩ => by
    have e := h1.2 i hi
    dsimp only at e
    rw [if_neg (by omega)] at e
    have b0 := bS i hi
    refine ⟨lm_u m1 p i (Int32.ofInt (G i % 8380417)), n1, ⟨en, fun q hq => (lm_u_row hq).trans (h1.1 q hq), fun j hj => ?_⟩, fun R K => lm_e89_2 ?_⟩
    · dsimp only
      by_cases c : j = i
      · subst c
        rw [lm_u_eq, if_pos (by omega)]
      · rw [lm_u_ne (by omega), h1.2 j hj]
        dsimp only
        by_cases c2 : j < i
        · rw [if_pos c2, if_pos (by omega)]
        · rw [if_neg c2, if_neg (by omega)]
    · unfold lm_q89_2
      rw [lm_K256]
      refine lm_geF (by omega) (by omega) (by omega) ?_
      repeat (first
    | ((with_reducible apply lm_sI); exact rfl)
    | ((with_reducible apply lm_sR); exact rfl)
    | ((with_reducible apply lm_sS); exact rfl; exact rfl)
    | ((with_reducible apply lm_sL); exact rfl)
    | ((with_reducible apply lm_sP); exact rfl; exact rfl)
    | ((with_reducible apply lm_sPL); exact rfl; exact rfl)
    | ((with_reducible apply lm_sAA); exact rfl; exact rfl)
    | ((with_reducible apply lm_sA); (first | exact rfl | assumption); omega)
    | ((with_reducible apply lm_sJ); (first | exact rfl | assumption); omega)
    | ((with_reducible apply lm_sB); (first | exact rfl | assumption); omega)
    | ((with_reducible apply lm_wA); (first | exact rfl | assumption); omega)
    | ((with_reducible apply lm_wJ); (first | exact rfl | assumption); omega)
    | ((with_reducible apply lm_wB); (first | exact rfl | assumption); omega)
    | ((with_reducible apply lm_sAl); (first | exact rfl | assumption); omega)
    | ((with_reducible apply lm_iW); decide))
      rw [e, lm_iA, lm_iR (by omega) (by omega) (by decide) (by decide), Int.tmod_eq_emod_of_nonneg (by omega), Int.add_emod_right, lm_K1, lm_oo]
      exact K) 256 0 (by omega) m n ⟨rfl, hS.hl fun j _ => by rw [if_neg (by omega)]⟩
  subst hn
  refine ⟨m', ?_, h1.hl fun j hj => by rw [if_pos hj]⟩
  refine lm_cal_of (Y := lm_m89) rfl rfl (lm_e89_0 ?_)
  unfold lm_q89_0
  rw [lm_K0]
  refine h2 _ (lm_e89_2 ?_)
  unfold lm_q89_2
  rw [lm_K256]
  exact lm_geT (by omega) (by omega) (by omega) rfl
end LMRN4
