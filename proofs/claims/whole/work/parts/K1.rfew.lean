/-! ===== Dsa of the reference: few, centre, unpack, high, low ===== -/
theorem lm_tme {a : Int} : (a.tmod 8380417 + 8380417).tmod 8380417 = a % 8380417 := by
  have b := lm_tmb (a := a) (show (0 : Int) < 8380417 by decide)
  rw [Int.tmod_eq_emod_of_nonneg (by omega)]
  exact (ln_cg.tr ⟨1, by omega⟩ (ln_cg.tm (a := a))).eq
theorem lm_sg_b2 {f : Nat → Int} {M : Int} : ∀ n, (∀ i, i < n → -M ≤ f i ∧ f i ≤ M) → -(n * M) ≤ ln_sg n f ∧ ln_sg n f ≤ n * M := by
  intro n
  induction n with
  | zero => intro _; rw [Int.natCast_zero, Int.zero_mul]; exact ⟨Int.le_refl _, Int.le_refl _⟩
  | succ n ih =>
    intro h
    have a := ih fun i hi => h i (by omega)
    have b := h n (by omega)
    have e : ((n + 1 : Nat) : Int) * M = n * M + M := by rw [Int.natCast_succ, Int.add_mul, Int.one_mul]
    show -(((n + 1 : Nat) : Int) * M) ≤ ln_sg n f + f n ∧ ln_sg n f + f n ≤ ((n + 1 : Nat) : Int) * M
    rw [e]
    omega
/-- where a product falls -/
def lm_nk (F : Nat → Int) (k a : Nat) : Int := if a ≤ k then F (k - a) else -F (256 + k - a)
theorem lm_ng_e {B F : Nat → Int} {k : Nat} : lm_ng B F k = ln_sg 256 (fun a => B a * lm_nk F k a) := by
  unfold lm_ng lm_nk
  rfl
section LMRF
variable {sc : lm_H} {d s q v p : Nat} {m m0 : lm_MI} {n : lm_ML} {x : lm_H × Nat × Nat} {σ : lm_S} {B F : Nat → Int}
theorem lm_u247 {r : Int} (hr : 0 ≤ r ∧ r < 8380417) : lm_cal sc (d + 1) 247 [.int (Int32.ofInt r)] σ = some (.ok (some (.int (Int32.ofInt (ln_ce r)))), σ) := by
  refine lm_cal_of (Y := lm_m247) rfl rfl (lm_e247_0 ?_)
  unfold lm_q247_0
  rw [lm_iS]
  unfold ln_ce
  by_cases c : r ≤ 4190208
  · rw [if_pos c]
    exact lm_zleT (by omega) (by omega) c rfl
  · rw [if_neg c]
    exact lm_zleF (by omega) (by omega) c rfl
/-- a row of few -/
theorem lm_l172 {b f a : Nat} {S : Nat → Int} (hb : lm_ar b = some (0, 256)) (hf : lm_ar f = some (0, 256)) (ha : a < 256) (hB : m b a = Int32.ofInt (B a)) (bB : -1 ≤ B a ∧ B a ≤ 1) (hF : ∀ c, c < 256 → m f c = Int32.ofInt (F c)) (bF : lm_bnd 8380417 F) (hS : ∀ k, k < 256 → n 230 k = Int64.ofInt (S k)) : ∃ n', (∀ q, q ≠ 230 → n' q = n q) ∧ (∀ k, k < 256 → n' 230 k = Int64.ofInt (S k + B a * lm_nk F k a)) ∧ ∀ R, lm_rn sc (d + 1) lm_m172.2.2.2.2.1 (lm_reg lm_m172.2.2.2.2.2) (28, [(0, .ref 203), (1, .ref p), (2, .ref b), (3, .ref f), (4, .int (Int32.ofNat (a + 1)))], []) (lm_w m n' x) = some R → lm_rn sc (d + 1) lm_m172.2.2.2.2.1 (lm_reg lm_m172.2.2.2.2.2) (28, [(0, .ref 203), (1, .ref p), (2, .ref b), (3, .ref f), (4, .int (Int32.ofNat a))], []) (lm_w m n x) = some R := by
  have e121 : ∀ n' R, lm_rn sc (d + 1) lm_m172.2.2.2.2.1 (lm_reg lm_m172.2.2.2.2.2) (28, [(0, .ref 203), (1, .ref p), (2, .ref b), (3, .ref f), (4, .int (Int32.ofNat (a + 1)))], []) (lm_w m n' x) = some R → lm_rn sc (d + 1) lm_m172.2.2.2.2.1 (lm_reg lm_m172.2.2.2.2.2) (121, [(0, .ref 203), (1, .ref p), (2, .ref b), (3, .ref f), (4, .int (Int32.ofNat a))], []) (lm_w m n' x) = some R := by
    intro n' R K
    refine lm_e172_121 ?_
    unfold lm_q172_121
    rw [lm_K1, lm_oo]
    exact K
  have e28 : ∀ R, lm_rn sc (d + 1) lm_m172.2.2.2.2.1 (lm_reg lm_m172.2.2.2.2.2) (39, [(0, .ref 203), (1, .ref p), (2, .ref b), (3, .ref f), (4, .int (Int32.ofNat a)), (5, .int (Int32.ofNat 0))], []) (lm_w m n x) = some R → lm_rn sc (d + 1) lm_m172.2.2.2.2.1 (lm_reg lm_m172.2.2.2.2.2) (28, [(0, .ref 203), (1, .ref p), (2, .ref b), (3, .ref f), (4, .int (Int32.ofNat a))], []) (lm_w m n x) = some R := by
    intro R K
    refine lm_e172_28 ?_
    unfold lm_q172_28
    rw [lm_K256, lm_K0]
    exact lm_geF (by omega) (by omega) (by omega) K
  by_cases c0 : B a = 0
  · refine ⟨n, fun _ _ => rfl, fun k hk => by rw [c0, Int.zero_mul, Int.add_zero]; exact hS k hk, fun R K => e28 R (lm_e172_39 ?_)⟩
    unfold lm_q172_39
    rw [lm_K256]
    refine lm_geF (by omega) (by omega) (by omega) ?_
    repeat (first
    | ((with_reducible apply lm_sI); exact rfl)
    | ((with_reducible apply lm_sR); exact rfl)
    | ((with_reducible apply lm_sS); exact rfl; exact rfl)
    | ((with_reducible apply lm_sL); exact rfl)
    | ((with_reducible apply lm_sP); exact rfl; exact rfl)
    | ((with_reducible apply lm_sPL); exact rfl; exact rfl)
    | ((with_reducible apply lm_sAA); exact rfl; exact rfl)
    | ((with_reducible apply lm_sA); (first | exact rfl | assumption); omega)
    | ((with_reducible apply lm_sJ); (first | exact rfl | assumption); omega)
    | ((with_reducible apply lm_sB); (first | exact rfl | assumption); omega)
    | ((with_reducible apply lm_wA); (first | exact rfl | assumption); omega)
    | ((with_reducible apply lm_wJ); (first | exact rfl | assumption); omega)
    | ((with_reducible apply lm_wB); (first | exact rfl | assumption); omega)
    | ((with_reducible apply lm_sAl); (first | exact rfl | assumption); omega)
    | ((with_reducible apply lm_iW); decide))
    rw [hB, c0]
    refine lm_zeqT (b := 0) rfl ?_
    exact e121 n R K
  · obtain ⟨m1, n1, ⟨em, g1, g2⟩, k1⟩ := lm_lp (sc := sc) (d := d + 1) (b := 256) (hs := lm_m172.2.2.2.2.1) (code := lm_reg lm_m172.2.2.2.2.2) (x := x) (fr := fun j => (39, [(0, .ref 203), (1, .ref p), (2, .ref b), (3, .ref f), (4, .int (Int32.ofNat a)), (5, .int (Int32.ofNat j))], [])) (I := fun j m' n' => m' = m ∧ (∀ q, q ≠ 230 → n' q = n q) ∧ ∀ k, k < 256 → n' 230 k = Int64.ofInt (S k + if (if a ≤ k then k - a else 256 + k - a) < j then B a * lm_nk F k a else 0)) (fun j hj m1 n1 ⟨em, g1, g2⟩ => by
      subst em
      have bf := bF j hj
      have fB := hF j hj
      have pre : ∀ R, lm_if .ge (Int32.ofNat a + Int32.ofNat j) (Int32.ofNat 256) (lm_bind (lm_gR 4502 203) fun v4 => lm_bind (lm_lald sc v4 ((Int32.ofNat a + Int32.ofNat j) - Int32.ofNat 256)) fun v5 => lm_bind (lm_last v4 ((Int32.ofNat a + Int32.ofNat j) - Int32.ofNat 256) (v5 - (Int32.toInt64 (m1 b a) * Int32.toInt64 (m1 f j)))) fun _ => lm_rn sc (d + 1) lm_m172.2.2.2.2.1 (lm_reg lm_m172.2.2.2.2.2) (115, [(0, .ref 203), (1, .ref p), (2, .ref b), (3, .ref f), (4, .int (Int32.ofNat a)), (5, .int (Int32.ofNat j))], [])) (lm_bind (lm_gR 4502 203) fun v6 => lm_bind (lm_lald sc v6 (Int32.ofNat a + Int32.ofNat j)) fun v7 => lm_bind (lm_last v6 (Int32.ofNat a + Int32.ofNat j) (v7 + (Int32.toInt64 (m1 b a) * Int32.toInt64 (m1 f j)))) fun _ => lm_rn sc (d + 1) lm_m172.2.2.2.2.1 (lm_reg lm_m172.2.2.2.2.2) (115, [(0, .ref 203), (1, .ref p), (2, .ref b), (3, .ref f), (4, .int (Int32.ofNat a)), (5, .int (Int32.ofNat j))], [])) (lm_w m1 n1 x) = some R → lm_rn sc (d + 1) lm_m172.2.2.2.2.1 (lm_reg lm_m172.2.2.2.2.2) (39, [(0, .ref 203), (1, .ref p), (2, .ref b), (3, .ref f), (4, .int (Int32.ofNat a)), (5, .int (Int32.ofNat j))], []) (lm_w m1 n1 x) = some R := by
        intro R K
        refine lm_e172_39 ?_
        unfold lm_q172_39
        rw [lm_K256]
        refine lm_geF (by omega) (by omega) (by omega) ?_
        repeat (first
    | ((with_reducible apply lm_sI); exact rfl)
    | ((with_reducible apply lm_sR); exact rfl)
    | ((with_reducible apply lm_sS); exact rfl; exact rfl)
    | ((with_reducible apply lm_sL); exact rfl)
    | ((with_reducible apply lm_sP); exact rfl; exact rfl)
    | ((with_reducible apply lm_sPL); exact rfl; exact rfl)
    | ((with_reducible apply lm_sAA); exact rfl; exact rfl)
    | ((with_reducible apply lm_sA); (first | exact rfl | assumption); omega)
    | ((with_reducible apply lm_sJ); (first | exact rfl | assumption); omega)
    | ((with_reducible apply lm_sB); (first | exact rfl | assumption); omega)
    | ((with_reducible apply lm_wA); (first | exact rfl | assumption); omega)
    | ((with_reducible apply lm_wJ); (first | exact rfl | assumption); omega)
    | ((with_reducible apply lm_wB); (first | exact rfl | assumption); omega)
    | ((with_reducible apply lm_sAl); (first | exact rfl | assumption); omega)
    | ((with_reducible apply lm_iW); decide))
        rw [hB]
        refine lm_zeqF (b := 0) (by omega) (by omega) c0 ?_
        repeat (first
    | ((with_reducible apply lm_sI); exact rfl)
    | ((with_reducible apply lm_sR); exact rfl)
    | ((with_reducible apply lm_sS); exact rfl; exact rfl)
    | ((with_reducible apply lm_sL); exact rfl)
    | ((with_reducible apply lm_sP); exact rfl; exact rfl)
    | ((with_reducible apply lm_sPL); exact rfl; exact rfl)
    | ((with_reducible apply lm_sAA); exact rfl; exact rfl)
    | ((with_reducible apply lm_sA); (first | exact rfl | assumption); omega)
    | ((with_reducible apply lm_sJ); (first | exact rfl | assumption); omega)
    | ((with_reducible apply lm_sB); (first | exact rfl | assumption); omega)
    | ((with_reducible apply lm_wA); (first | exact rfl | assumption); omega)
    | ((with_reducible apply lm_wJ); (first | exact rfl | assumption); omega)
    | ((with_reducible apply lm_wB); (first | exact rfl | assumption); omega)
    | ((with_reducible apply lm_sAl); (first | exact rfl | assumption); omega)
    | ((with_reducible apply lm_iW); decide))
        exact K
      have e115 : ∀ n' R, lm_rn sc (d + 1) lm_m172.2.2.2.2.1 (lm_reg lm_m172.2.2.2.2.2) (39, [(0, .ref 203), (1, .ref p), (2, .ref b), (3, .ref f), (4, .int (Int32.ofNat a)), (5, .int (Int32.ofNat (j + 1)))], []) (lm_w m1 n' x) = some R → lm_rn sc (d + 1) lm_m172.2.2.2.2.1 (lm_reg lm_m172.2.2.2.2.2) (115, [(0, .ref 203), (1, .ref p), (2, .ref b), (3, .ref f), (4, .int (Int32.ofNat a)), (5, .int (Int32.ofNat j))], []) (lm_w m1 n' x) = some R := by
        intro n' R K
        refine lm_e172_115 ?_
        unfold lm_q172_115
        rw [lm_K1, lm_oo]
        exact K
      by_cases c1 : 256 ≤ a + j
      · refine ⟨m1, lm_u n1 230 (a + j - 256) (Int64.ofInt (S (a + j - 256) - B a * F j)), ⟨rfl, fun q hq => (lm_u_row hq).trans (g1 q hq), fun k hk => ?_⟩, fun R K => pre R ?_⟩
        · by_cases ck : k = a + j - 256
          · rw [ck, lm_u_eq]
            have : lm_nk F (a + j - 256) a = -F j := by
              unfold lm_nk
              rw [if_neg (by omega), show 256 + (a + j - 256) - a = j by omega]
            rw [this, if_pos (by split <;> omega), Int.mul_neg]
            rfl
          · rw [lm_u_ne (fun g => ck g.2), g2 k hk]
            by_cases c2 : (if a ≤ k then k - a else 256 + k - a) < j
            · rw [if_pos c2, if_pos (by omega)]
            · rw [if_neg c2, if_neg (by split at c2 <;> split <;> omega)]
        · rw [lm_oo]
          refine lm_geT (by omega) (by omega) (by omega) ?_
          rw [lm_osu (by omega)]
          repeat (first
    | ((with_reducible apply lm_sI); exact rfl)
    | ((with_reducible apply lm_sR); exact rfl)
    | ((with_reducible apply lm_sS); exact rfl; exact rfl)
    | ((with_reducible apply lm_sL); exact rfl)
    | ((with_reducible apply lm_sP); exact rfl; exact rfl)
    | ((with_reducible apply lm_sPL); exact rfl; exact rfl)
    | ((with_reducible apply lm_sAA); exact rfl; exact rfl)
    | ((with_reducible apply lm_sA); (first | exact rfl | assumption); omega)
    | ((with_reducible apply lm_sJ); (first | exact rfl | assumption); omega)
    | ((with_reducible apply lm_sB); (first | exact rfl | assumption); omega)
    | ((with_reducible apply lm_wA); (first | exact rfl | assumption); omega)
    | ((with_reducible apply lm_wJ); (first | exact rfl | assumption); omega)
    | ((with_reducible apply lm_wB); (first | exact rfl | assumption); omega)
    | ((with_reducible apply lm_sAl); (first | exact rfl | assumption); omega)
    | ((with_reducible apply lm_iW); decide))
          rw [g2 (a + j - 256) (by omega), if_neg (by split <;> omega), Int.add_zero, hB, fB, lm_il (by omega) (by omega), lm_il (by omega) (by omega), lm_LM, show Int64.ofInt (S (a + j - 256)) - Int64.ofInt (B a * F j) = Int64.ofInt (S (a + j - 256) - B a * F j) from (Int64.ofInt_sub _ _).symm]
          exact e115 _ R K
      · refine ⟨m1, lm_u n1 230 (a + j) (Int64.ofInt (S (a + j) + B a * F j)), ⟨rfl, fun q hq => (lm_u_row hq).trans (g1 q hq), fun k hk => ?_⟩, fun R K => pre R ?_⟩
        · by_cases ck : k = a + j
          · subst ck
            rw [lm_u_eq]
            have : lm_nk F (a + j) a = F j := by
              unfold lm_nk
              rw [if_pos (by omega), show a + j - a = j by omega]
            rw [this, if_pos (by split <;> omega)]
          · rw [lm_u_ne (fun g => ck g.2), g2 k hk]
            by_cases c2 : (if a ≤ k then k - a else 256 + k - a) < j
            · rw [if_pos c2, if_pos (by omega)]
            · rw [if_neg c2, if_neg (by split at c2 <;> split <;> omega)]
        · rw [lm_oo]
          refine lm_geF (by omega) (by omega) (by omega) ?_
          repeat (first
    | ((with_reducible apply lm_sI); exact rfl)
    | ((with_reducible apply lm_sR); exact rfl)
    | ((with_reducible apply lm_sS); exact rfl; exact rfl)
    | ((with_reducible apply lm_sL); exact rfl)
    | ((with_reducible apply lm_sP); exact rfl; exact rfl)
    | ((with_reducible apply lm_sPL); exact rfl; exact rfl)
    | ((with_reducible apply lm_sAA); exact rfl; exact rfl)
    | ((with_reducible apply lm_sA); (first | exact rfl | assumption); omega)
    | ((with_reducible apply lm_sJ); (first | exact rfl | assumption); omega)
    | ((with_reducible apply lm_sB); (first | exact rfl | assumption); omega)
    | ((with_reducible apply lm_wA); (first | exact rfl | assumption); omega)
    | ((with_reducible apply lm_wJ); (first | exact rfl | assumption); omega)
    | ((with_reducible apply lm_wB); (first | exact rfl | assumption); omega)
    | ((with_reducible apply lm_sAl); (first | exact rfl | assumption); omega)
    | ((with_reducible apply lm_iW); decide))
          rw [g2 (a + j) (by omega), if_neg (by split <;> omega), Int.add_zero, hB, fB, lm_il (by omega) (by omega), lm_il (by omega) (by omega), lm_LM, lm_LA]
          exact e115 _ R K) 256 0 (by omega) m n ⟨rfl, fun _ _ => rfl, fun k hk => by rw [if_neg (by omega), Int.add_zero]; exact hS k hk⟩
    subst em
    refine ⟨n1, g1, fun k hk => by rw [g2 k hk, if_pos (by split <;> omega)], fun R K => e28 R (k1 R (lm_e172_39 ?_))⟩
    unfold lm_q172_39
    rw [lm_K256]
    exact lm_geT (by omega) (by omega) (by omega) (e121 n1 R K)
/-- few -/
theorem lm_u172 {b f : Nat} (hp : lm_ar p = some (0, 256)) (hb : lm_ar b = some (0, 256)) (hf : lm_ar f = some (0, 256)) (hB : ∀ c, c < 256 → m b c = Int32.ofInt (B c)) (bB : ∀ c, -1 ≤ B c ∧ B c ≤ 1) (hF : ∀ c, c < 256 → m f c = Int32.ofInt (F c)) (bF : lm_bnd 8380417 F) : ∃ m' n', lm_cal sc (d + 2) 172 [.ref 203, .ref p, .ref b, .ref f] (lm_w m n x) = some (.ok none, lm_w m' n' x) ∧ lm_PA m m' p (fun c => ln_ce (lm_ng B F c % 8380417)) ∧ ∀ q, q ≠ 230 → n' q = n q := by
  obtain ⟨m1, n1, ⟨em, g1, g2⟩, k1⟩ := lm_lp (sc := sc) (d := d + 1) (b := 256) (hs := lm_m172.2.2.2.2.1) (code := lm_reg lm_m172.2.2.2.2.2) (x := x) (fr := fun i => (3, [(0, .ref 203), (1, .ref p), (2, .ref b), (3, .ref f), (4, .int (Int32.ofNat i))], [])) (I := fun i m' n' => m' = m ∧ (∀ q, q ≠ 230 → n' q = n q) ∧ ∀ k, k < i → n' 230 k = Int64.ofInt 0) (fun i hi m1 n1 ⟨em, g1, g2⟩ => by
    refine ⟨m1, lm_u n1 230 i (Int64.ofNat 0), ⟨em, fun q hq => (lm_u_row hq).trans (g1 q hq), fun k hk => ?_⟩, fun R K => lm_e172_3 ?_⟩
    · by_cases c : k = i
      · subst c; rw [lm_u_eq]; rfl
      · rw [lm_u_ne (fun g => c g.2)]; exact g2 k (by omega)
    · unfold lm_q172_3
      rw [lm_K256]
      refine lm_geF (by omega) (by omega) (by omega) ?_
      repeat (first
    | ((with_reducible apply lm_sI); exact rfl)
    | ((with_reducible apply lm_sR); exact rfl)
    | ((with_reducible apply lm_sS); exact rfl; exact rfl)
    | ((with_reducible apply lm_sL); exact rfl)
    | ((with_reducible apply lm_sP); exact rfl; exact rfl)
    | ((with_reducible apply lm_sPL); exact rfl; exact rfl)
    | ((with_reducible apply lm_sAA); exact rfl; exact rfl)
    | ((with_reducible apply lm_sA); (first | exact rfl | assumption); omega)
    | ((with_reducible apply lm_sJ); (first | exact rfl | assumption); omega)
    | ((with_reducible apply lm_sB); (first | exact rfl | assumption); omega)
    | ((with_reducible apply lm_wA); (first | exact rfl | assumption); omega)
    | ((with_reducible apply lm_wJ); (first | exact rfl | assumption); omega)
    | ((with_reducible apply lm_wB); (first | exact rfl | assumption); omega)
    | ((with_reducible apply lm_sAl); (first | exact rfl | assumption); omega)
    | ((with_reducible apply lm_iW); decide))
      rw [lm_K1, lm_oo]
      exact K) 256 0 (by omega) m n ⟨rfl, fun _ _ => rfl, fun k hk => absurd hk (by omega)⟩
  subst em
  obtain ⟨m2, n2, ⟨em, h1, h2⟩, k2⟩ := lm_lp (sc := sc) (d := d + 1) (b := 256) (hs := lm_m172.2.2.2.2.1) (code := lm_reg lm_m172.2.2.2.2.2) (x := x) (fr := fun a => (28, [(0, .ref 203), (1, .ref p), (2, .ref b), (3, .ref f), (4, .int (Int32.ofNat a))], [])) (I := fun a m' n' => m' = m1 ∧ (∀ q, q ≠ 230 → n' q = n q) ∧ ∀ k, k < 256 → n' 230 k = Int64.ofInt (ln_sg a (fun a' => B a' * lm_nk F k a'))) (fun a ha m2 n2 ⟨em, h1, h2⟩ => by
    subst em
    obtain ⟨n3, i1, i2, i3⟩ := lm_l172 (sc := sc) (d := d) (p := p) (b := b) (f := f) (m := m2) (n := n2) (x := x) (B := B) (F := F) (S := fun k => ln_sg a (fun a' => B a' * lm_nk F k a')) hb hf ha (hB a ha) (bB a) hF bF h2
    exact ⟨m2, n3, ⟨rfl, fun q hq => (i1 q hq).trans (h1 q hq), i2⟩, i3⟩) 256 0 (by omega) m1 n1 ⟨rfl, g1, fun k hk => g2 k hk⟩
  subst em
  have bS : ∀ k, -(2145386752 : Int) ≤ ln_sg 256 (fun a' => B a' * lm_nk F k a') ∧ ln_sg 256 (fun a' => B a' * lm_nk F k a') ≤ 2145386752 ∨ ¬ k < 256 := fun k => by
    by_cases hk : k < 256
    · refine Or.inl ?_
      have := lm_sg_b2 (f := fun a' => B a' * lm_nk F k a') (M := 8380417) 256 (fun i hi => by
        have b1 := bB i
        have b2 : -8380417 ≤ lm_nk F k i ∧ lm_nk F k i ≤ 8380417 := by
          unfold lm_nk
          split
          · exact bF _ (by omega)
          · have := bF (256 + k - i) (by omega); omega
        have := lm_mulb (A := 1) (B := 8380417) b1 b2
        show -8380417 ≤ B i * lm_nk F k i ∧ B i * lm_nk F k i ≤ 8380417
        omega)
      omega
    · exact Or.inr hk
  obtain ⟨m3, n3, ⟨en, j1⟩, k3⟩ := lm_lp (sc := sc) (d := d + 1) (b := 256) (hs := lm_m172.2.2.2.2.1) (code := lm_reg lm_m172.2.2.2.2.2) (x := x) (fr := fun i => (130, [(0, .ref 203), (1, .ref p), (4, .int (Int32.ofNat i))], [])) (I := fun i m' n' => n' = n2 ∧ (∀ r, r ≠ p → m' r = m2 r) ∧ ∀ j, j < i → m' p j = Int32.ofInt (ln_ce (lm_ng B F j % 8380417))) (fun i hi m3 n3 ⟨en, j1, j2⟩ => by
    subst en
    have e := h2 i hi
    have b := bS i
    have b' : -(2145386752 : Int) ≤ ln_sg 256 (fun a' => B a' * lm_nk F i a') ∧ ln_sg 256 (fun a' => B a' * lm_nk F i a') ≤ 2145386752 := by
      rcases b with b | b
      · exact b
      · exact absurd hi b
    have tb := lm_tmb (a := ln_sg 256 (fun a' => B a' * lm_nk F i a')) (show (0 : Int) < 8380417 by decide)
    have cc := lm_u247 (sc := sc) (d := d) (σ := lm_w m3 n3 x) (r := lm_ng B F i % 8380417) ⟨Int.emod_nonneg _ (by decide), Int.emod_lt_of_pos _ (by decide)⟩
    have ev : Int64.toInt32 (lm_remL ((lm_remL (n3 230 i) (Int64.ofNat 8380417)) + (Int64.ofNat 8380417)) (Int64.ofNat 8380417)) = Int32.ofInt (lm_ng B F i % 8380417) := by
      rw [e, lm_LN, show ((8380417 : Nat) : Int) = 8380417 from rfl, lm_LR (by omega) (by omega) (by decide) (by decide), lm_LA, lm_LR (by omega) (by omega) (by decide) (by decide), ln_li, lm_ng_e]
      exact congrArg Int32.ofInt lm_tme
    refine ⟨lm_u m3 p i (Int32.ofInt (ln_ce (lm_ng B F i % 8380417))), n3, ⟨rfl, fun r hr => (lm_u_row hr).trans (j1 r hr), fun j hj => ?_⟩, fun R K => lm_e172_130 ?_⟩
    · by_cases c : j = i
      · subst c; rw [lm_u_eq]
      · rw [lm_u_ne (by omega)]; exact j2 j (by omega)
    · clear e bS b b' tb
      unfold lm_q172_130
      rw [lm_K256]
      refine lm_geF (by omega) (by omega) (by omega) ?_
      repeat (first
    | ((with_reducible apply lm_sI); exact rfl)
    | ((with_reducible apply lm_sR); exact rfl)
    | ((with_reducible apply lm_sS); exact rfl; exact rfl)
    | ((with_reducible apply lm_sL); exact rfl)
    | ((with_reducible apply lm_sP); exact rfl; exact rfl)
    | ((with_reducible apply lm_sPL); exact rfl; exact rfl)
    | ((with_reducible apply lm_sAA); exact rfl; exact rfl)
    | ((with_reducible apply lm_sA); (first | exact rfl | assumption); omega)
    | ((with_reducible apply lm_sJ); (first | exact rfl | assumption); omega)
    | ((with_reducible apply lm_sB); (first | exact rfl | assumption); omega)
    | ((with_reducible apply lm_wA); (first | exact rfl | assumption); omega)
    | ((with_reducible apply lm_wJ); (first | exact rfl | assumption); omega)
    | ((with_reducible apply lm_wB); (first | exact rfl | assumption); omega)
    | ((with_reducible apply lm_sAl); (first | exact rfl | assumption); omega)
    | ((with_reducible apply lm_iW); decide))
      rw [ev]
      refine lm_cI cc ?_
      repeat (first
    | ((with_reducible apply lm_sI); exact rfl)
    | ((with_reducible apply lm_sR); exact rfl)
    | ((with_reducible apply lm_sS); exact rfl; exact rfl)
    | ((with_reducible apply lm_sL); exact rfl)
    | ((with_reducible apply lm_sP); exact rfl; exact rfl)
    | ((with_reducible apply lm_sPL); exact rfl; exact rfl)
    | ((with_reducible apply lm_sAA); exact rfl; exact rfl)
    | ((with_reducible apply lm_sA); (first | exact rfl | assumption); omega)
    | ((with_reducible apply lm_sJ); (first | exact rfl | assumption); omega)
    | ((with_reducible apply lm_sB); (first | exact rfl | assumption); omega)
    | ((with_reducible apply lm_wA); (first | exact rfl | assumption); omega)
    | ((with_reducible apply lm_wJ); (first | exact rfl | assumption); omega)
    | ((with_reducible apply lm_wB); (first | exact rfl | assumption); omega)
    | ((with_reducible apply lm_sAl); (first | exact rfl | assumption); omega)
    | ((with_reducible apply lm_iW); decide))
      rw [lm_K1, lm_oo]
      exact K) 256 0 (by omega) m2 n2 ⟨rfl, fun _ _ => rfl, fun j hj => absurd hj (by omega)⟩
  subst en
  refine ⟨m3, n3, ?_, ⟨j1.1, j1.2⟩, h1⟩
  refine lm_cal_of (Y := lm_m172) rfl rfl (lm_e172_0 ?_)
  unfold lm_q172_0
  rw [lm_K0]
  refine k1 _ (lm_e172_3 ?_)
  unfold lm_q172_3
  rw [lm_K256, lm_K0]
  refine lm_geT (by omega) (by omega) (by omega) ?_
  refine k2 _ (lm_e172_28 ?_)
  unfold lm_q172_28
  rw [lm_K256, lm_K0]
  refine lm_geT (by omega) (by omega) (by omega) ?_
  refine k3 _ (lm_e172_130 ?_)
  unfold lm_q172_130
  rw [lm_K256]
  exact lm_geT (by omega) (by omega) (by omega) rfl
/-- unpack -/
theorem lm_u98 {a T bits : Nat} {Bd : Int} (hq : lm_ar q = some (1, v)) (hv : v ≤ 70000) (hp : lm_ar p = some (0, 256)) (hpq : p ≠ q ∧ p ≠ 203) (hT : m 203 24 = Int32.ofNat T) (hTv : T + bits * 256 ≤ 8 * (v - a)) (hav : a ≤ v) (hb : bits ≤ 20) (hq3 : q ≠ 203) : ∃ m', lm_cal sc (d + 3) 98 [.ref 203, .ref q, .int (Int32.ofNat a), .ref p, .int (Int32.ofInt Bd), .int (Int32.ofNat bits)] (lm_w m n x) = some (.ok none, lm_w m' n x) ∧ (∀ r, r ≠ 203 → r ≠ p → m' r = m r) ∧ (∀ j, j ≠ 24 → m' 203 j = m 203 j) ∧ m' 203 24 = Int32.ofNat (T + bits * 256) ∧ ∀ c, c < 256 → m' p c = Int32.ofInt (Bd - (ln_bv (ln_bt (fun j => m q (a + j))) (T + bits * c) bits : Nat)) := by
  obtain ⟨m1, n1, ⟨en, g1, g2, g3, g4⟩, k1⟩ := lm_lp (sc := sc) (d := d + 2) (b := 256) (hs := lm_m98.2.2.2.2.1) (code := lm_reg lm_m98.2.2.2.2.2) (x := x) (fr := fun i => (3, [(0, .ref 203), (1, .ref q), (2, .int (Int32.ofNat a)), (3, .ref p), (4, .int (Int32.ofInt Bd)), (5, .int (Int32.ofNat bits)), (6, .int (Int32.ofNat i))], [])) (I := fun i m' n' => n' = n ∧ (∀ r, r ≠ 203 → r ≠ p → m' r = m r) ∧ (∀ j, j ≠ 24 → m' 203 j = m 203 j) ∧ m' 203 24 = Int32.ofNat (T + bits * i) ∧ ∀ c, c < i → m' p c = Int32.ofInt (Bd - (ln_bv (ln_bt (fun j => m q (a + j))) (T + bits * c) bits : Nat))) (fun i hi m1 n1 ⟨en, g1, g2, g3, g4⟩ => by
    have hi2 : bits * i + bits ≤ bits * 256 := by
      rw [← Nat.mul_succ]
      exact Nat.mul_le_mul_left _ hi
    have c1 := lm_u77 (sc := sc) (e := d) (m := m1) (n := n1) (x := x) (q := q) (v := v) (a := a) (d := bits) (T := T + bits * i) hq hv g3 (by omega) hav hb
    rw [g1 q hq3 (fun g => hpq.1 g.symm)] at c1
    rw [Nat.add_assoc, ← Nat.mul_succ] at c1
    refine ⟨lm_u (lm_u m1 203 24 (Int32.ofNat (T + bits * (i + 1)))) p i (Int32.ofInt (Bd - (ln_bv (ln_bt (fun j => m q (a + j))) (T + bits * i) bits : Nat))), n1, ⟨en, fun r r1 r2 => by rw [lm_u_row r2, lm_u_row r1, g1 r r1 r2], fun j hj => by rw [lm_u_row (fun g => hpq.2 g.symm), lm_u_ne (fun g => hj g.2), g2 j hj], by rw [lm_u_row (fun g => hpq.2 g.symm), lm_u_eq], fun c hc => ?_⟩, fun R K => lm_e98_3 ?_⟩
    · by_cases c0 : c = i
      · subst c0; rw [lm_u_eq]
      · rw [lm_u_ne (fun g => c0 g.2), lm_u_row hpq.2]; exact g4 c (by omega)
    · unfold lm_q98_3
      rw [lm_K256]
      refine lm_geF (by omega) (by omega) (by omega) ?_
      repeat (first
    | ((with_reducible apply lm_sI); exact rfl)
    | ((with_reducible apply lm_sR); exact rfl)
    | ((with_reducible apply lm_sS); exact rfl; exact rfl)
    | ((with_reducible apply lm_sL); exact rfl)
    | ((with_reducible apply lm_sP); exact rfl; exact rfl)
    | ((with_reducible apply lm_sPL); exact rfl; exact rfl)
    | ((with_reducible apply lm_sAA); exact rfl; exact rfl)
    | ((with_reducible apply lm_sA); (first | exact rfl | assumption); omega)
    | ((with_reducible apply lm_sJ); (first | exact rfl | assumption); omega)
    | ((with_reducible apply lm_sB); (first | exact rfl | assumption); omega)
    | ((with_reducible apply lm_wA); (first | exact rfl | assumption); omega)
    | ((with_reducible apply lm_wJ); (first | exact rfl | assumption); omega)
    | ((with_reducible apply lm_wB); (first | exact rfl | assumption); omega)
    | ((with_reducible apply lm_sAl); (first | exact rfl | assumption); omega)
    | ((with_reducible apply lm_iW); decide))
      refine lm_cI c1 ?_
      rw [lm_oN (ln_bv _ _ _), lm_iS]
      repeat (first
    | ((with_reducible apply lm_sI); exact rfl)
    | ((with_reducible apply lm_sR); exact rfl)
    | ((with_reducible apply lm_sS); exact rfl; exact rfl)
    | ((with_reducible apply lm_sL); exact rfl)
    | ((with_reducible apply lm_sP); exact rfl; exact rfl)
    | ((with_reducible apply lm_sPL); exact rfl; exact rfl)
    | ((with_reducible apply lm_sAA); exact rfl; exact rfl)
    | ((with_reducible apply lm_sA); (first | exact rfl | assumption); omega)
    | ((with_reducible apply lm_sJ); (first | exact rfl | assumption); omega)
    | ((with_reducible apply lm_sB); (first | exact rfl | assumption); omega)
    | ((with_reducible apply lm_wA); (first | exact rfl | assumption); omega)
    | ((with_reducible apply lm_wJ); (first | exact rfl | assumption); omega)
    | ((with_reducible apply lm_wB); (first | exact rfl | assumption); omega)
    | ((with_reducible apply lm_sAl); (first | exact rfl | assumption); omega)
    | ((with_reducible apply lm_iW); decide))
      rw [lm_K1, lm_oo]
      exact K) 256 0 (by omega) m n ⟨rfl, fun _ _ _ => rfl, fun _ _ => rfl, hT, fun c hc => absurd hc (by omega)⟩
  subst en
  refine ⟨m1, ?_, g1, g2, g3, g4⟩
  refine lm_cal_of (Y := lm_m98) rfl rfl (lm_e98_0 ?_)
  unfold lm_q98_0
  rw [lm_K0]
  refine k1 _ (lm_e98_3 ?_)
  unfold lm_q98_3
  rw [lm_K256]
  exact lm_geT (by omega) (by omega) (by omega) rfl
/-- low -/
theorem lm_u104 {r : Int} (hs : s ≤ 2) (h46 : m 203 46 = Int32.ofNat (lm_dg2 s)) (hr : 0 ≤ r ∧ r < 8380417) : lm_cal sc (d + 1) 104 [.ref 203, .int (Int32.ofInt r)] (lm_w m n x) = some (.ok (some (.int (Int32.ofInt (ln_lo (lm_dg2 s) r)))), lm_w m n x) := by
  have hg := lm_g2_2 hs
  have hb := lm_lx_b hg hr
  have eR : lm_rem (Int32.ofInt r) (Int32.ofInt 2 * Int32.ofNat (lm_dg2 s)) = Int32.ofInt (r % (2 * ((lm_dg2 s : Nat) : Int))) := by
    rw [lm_oN, lm_iM, lm_iR (by omega) (by omega) (by omega) (by omega), Int.tmod_eq_emod_of_nonneg hr.1]
  have eZ : ¬ Int32.ofInt 2 * Int32.ofNat (lm_dg2 s) = 0 := by
    rw [lm_oN, lm_iM]
    exact fun g => absurd ((lm_zeq (b := 0) (by omega) (by omega)).mp g) (by omega)
  have fin : ∀ w, w = Int32.ofInt (lm_lx (lm_dg2 s) r) → lm_rn sc d lm_m104.2.2.2.2.1 (lm_reg lm_m104.2.2.2.2.2) (26, [(1, .int (Int32.ofInt r)), (2, .int w)], []) (lm_w m n x) = some (.ok (some (.int (Int32.ofInt (ln_lo (lm_dg2 s) r)))), lm_w m n x) := by
    intro w hw
    subst hw
    refine lm_e104_26 ?_
    unfold lm_q104_26
    rw [lm_iS, lm_iS]
    unfold ln_lo
    by_cases c : r - lm_lx (lm_dg2 s) r = 8380416
    · rw [if_pos c]
      exact lm_zneF c rfl
    · rw [if_neg c]
      exact lm_zneT (by omega) (by omega) c rfl
  refine lm_cal_of (Y := lm_m104) rfl rfl (lm_e104_0 ?_)
  unfold lm_q104_0
  repeat (first
    | ((with_reducible apply lm_sI); exact rfl)
    | ((with_reducible apply lm_sR); exact rfl)
    | ((with_reducible apply lm_sS); exact rfl; exact rfl)
    | ((with_reducible apply lm_sL); exact rfl)
    | ((with_reducible apply lm_sP); exact rfl; exact rfl)
    | ((with_reducible apply lm_sPL); exact rfl; exact rfl)
    | ((with_reducible apply lm_sAA); exact rfl; exact rfl)
    | ((with_reducible apply lm_sA); (first | exact rfl | assumption); omega)
    | ((with_reducible apply lm_sJ); (first | exact rfl | assumption); omega)
    | ((with_reducible apply lm_sB); (first | exact rfl | assumption); omega)
    | ((with_reducible apply lm_wA); (first | exact rfl | assumption); omega)
    | ((with_reducible apply lm_wJ); (first | exact rfl | assumption); omega)
    | ((with_reducible apply lm_wB); (first | exact rfl | assumption); omega)
    | ((with_reducible apply lm_sAl); (first | exact rfl | assumption); omega)
    | ((with_reducible apply lm_iW); decide))
  simp only [Nat.reduceDiv, Nat.reduceMod]
  rw [h46]
  refine lm_iW eZ ?_
  repeat (first
    | ((with_reducible apply lm_sI); exact rfl)
    | ((with_reducible apply lm_sR); exact rfl)
    | ((with_reducible apply lm_sS); exact rfl; exact rfl)
    | ((with_reducible apply lm_sL); exact rfl)
    | ((with_reducible apply lm_sP); exact rfl; exact rfl)
    | ((with_reducible apply lm_sPL); exact rfl; exact rfl)
    | ((with_reducible apply lm_sAA); exact rfl; exact rfl)
    | ((with_reducible apply lm_sA); (first | exact rfl | assumption); omega)
    | ((with_reducible apply lm_sJ); (first | exact rfl | assumption); omega)
    | ((with_reducible apply lm_sB); (first | exact rfl | assumption); omega)
    | ((with_reducible apply lm_wA); (first | exact rfl | assumption); omega)
    | ((with_reducible apply lm_wJ); (first | exact rfl | assumption); omega)
    | ((with_reducible apply lm_wB); (first | exact rfl | assumption); omega)
    | ((with_reducible apply lm_sAl); (first | exact rfl | assumption); omega)
    | ((with_reducible apply lm_iW); decide))
  simp only [Nat.reduceDiv, Nat.reduceMod]
  rw [h46, eR, lm_oN (lm_dg2 s)]
  have hm : 0 ≤ r % (2 * ((lm_dg2 s : Nat) : Int)) ∧ r % (2 * ((lm_dg2 s : Nat) : Int)) < 2 * ((lm_dg2 s : Nat) : Int) := ⟨Int.emod_nonneg _ (by omega), Int.emod_lt_of_pos _ (by omega)⟩
  by_cases c : r % (2 * ((lm_dg2 s : Nat) : Int)) ≤ ((lm_dg2 s : Nat) : Int)
  · refine lm_zleT (by omega) (by omega) c ?_
    exact fin _ (by unfold lm_lx; rw [if_pos c])
  · refine lm_zleF (by omega) (by omega) c ?_
    repeat (first
    | ((with_reducible apply lm_sI); exact rfl)
    | ((with_reducible apply lm_sR); exact rfl)
    | ((with_reducible apply lm_sS); exact rfl; exact rfl)
    | ((with_reducible apply lm_sL); exact rfl)
    | ((with_reducible apply lm_sP); exact rfl; exact rfl)
    | ((with_reducible apply lm_sPL); exact rfl; exact rfl)
    | ((with_reducible apply lm_sAA); exact rfl; exact rfl)
    | ((with_reducible apply lm_sA); (first | exact rfl | assumption); omega)
    | ((with_reducible apply lm_sJ); (first | exact rfl | assumption); omega)
    | ((with_reducible apply lm_sB); (first | exact rfl | assumption); omega)
    | ((with_reducible apply lm_wA); (first | exact rfl | assumption); omega)
    | ((with_reducible apply lm_wJ); (first | exact rfl | assumption); omega)
    | ((with_reducible apply lm_wB); (first | exact rfl | assumption); omega)
    | ((with_reducible apply lm_sAl); (first | exact rfl | assumption); omega)
    | ((with_reducible apply lm_iW); decide))
    simp only [Nat.reduceDiv, Nat.reduceMod]
    rw [h46]
    exact fin _ (by unfold lm_lx; rw [if_neg c, lm_oN (lm_dg2 s), lm_iM, lm_iS])
/-- high -/
theorem lm_u103 {r : Int} (hs : s ≤ 2) (h46 : m 203 46 = Int32.ofNat (lm_dg2 s)) (hr : 0 ≤ r ∧ r < 8380417) : lm_cal sc (d + 1) 103 [.ref 203, .int (Int32.ofInt r)] (lm_w m n x) = some (.ok (some (.int (Int32.ofInt (lm_hi (lm_dg2 s) r)))), lm_w m n x) := by
  have hg := lm_g2_2 hs
  have hb := lm_lx_b hg hr
  have eR : lm_rem (Int32.ofInt r) (Int32.ofInt 2 * Int32.ofNat (lm_dg2 s)) = Int32.ofInt (r % (2 * ((lm_dg2 s : Nat) : Int))) := by
    rw [lm_oN, lm_iM, lm_iR (by omega) (by omega) (by omega) (by omega), Int.tmod_eq_emod_of_nonneg hr.1]
  have eZ : ¬ Int32.ofInt 2 * Int32.ofNat (lm_dg2 s) = 0 := by
    rw [lm_oN, lm_iM]
    exact fun g => absurd ((lm_zeq (b := 0) (by omega) (by omega)).mp g) (by omega)
  have fin : ∀ w, w = Int32.ofInt (lm_lx (lm_dg2 s) r) → lm_rn sc d lm_m103.2.2.2.2.1 (lm_reg lm_m103.2.2.2.2.2) (26, [(0, .ref 203), (1, .int (Int32.ofInt r)), (2, .int w)], []) (lm_w m n x) = some (.ok (some (.int (Int32.ofInt (lm_hi (lm_dg2 s) r)))), lm_w m n x) := by
    intro w hw
    subst hw
    refine lm_e103_26 ?_
    unfold lm_q103_26
    rw [lm_iS]
    unfold lm_hi
    by_cases c : r - lm_lx (lm_dg2 s) r = 8380416
    · rw [if_pos c]
      exact lm_zneF c rfl
    · rw [if_neg c]
      refine lm_zneT (by omega) (by omega) c ?_
      repeat (first
    | ((with_reducible apply lm_sI); exact rfl)
    | ((with_reducible apply lm_sR); exact rfl)
    | ((with_reducible apply lm_sS); exact rfl; exact rfl)
    | ((with_reducible apply lm_sL); exact rfl)
    | ((with_reducible apply lm_sP); exact rfl; exact rfl)
    | ((with_reducible apply lm_sPL); exact rfl; exact rfl)
    | ((with_reducible apply lm_sAA); exact rfl; exact rfl)
    | ((with_reducible apply lm_sA); (first | exact rfl | assumption); omega)
    | ((with_reducible apply lm_sJ); (first | exact rfl | assumption); omega)
    | ((with_reducible apply lm_sB); (first | exact rfl | assumption); omega)
    | ((with_reducible apply lm_wA); (first | exact rfl | assumption); omega)
    | ((with_reducible apply lm_wJ); (first | exact rfl | assumption); omega)
    | ((with_reducible apply lm_wB); (first | exact rfl | assumption); omega)
    | ((with_reducible apply lm_sAl); (first | exact rfl | assumption); omega)
    | ((with_reducible apply lm_iW); decide))
      simp only [Nat.reduceDiv, Nat.reduceMod]
      rw [h46]
      refine lm_iW eZ ?_
      rw [lm_oN (lm_dg2 s), lm_iM, lm_iD (by omega) (by omega) (by omega) (by omega), Int.tdiv_eq_ediv_of_nonneg hb.2.2.1]
      rfl
  refine lm_cal_of (Y := lm_m103) rfl rfl (lm_e103_0 ?_)
  unfold lm_q103_0
  repeat (first
    | ((with_reducible apply lm_sI); exact rfl)
    | ((with_reducible apply lm_sR); exact rfl)
    | ((with_reducible apply lm_sS); exact rfl; exact rfl)
    | ((with_reducible apply lm_sL); exact rfl)
    | ((with_reducible apply lm_sP); exact rfl; exact rfl)
    | ((with_reducible apply lm_sPL); exact rfl; exact rfl)
    | ((with_reducible apply lm_sAA); exact rfl; exact rfl)
    | ((with_reducible apply lm_sA); (first | exact rfl | assumption); omega)
    | ((with_reducible apply lm_sJ); (first | exact rfl | assumption); omega)
    | ((with_reducible apply lm_sB); (first | exact rfl | assumption); omega)
    | ((with_reducible apply lm_wA); (first | exact rfl | assumption); omega)
    | ((with_reducible apply lm_wJ); (first | exact rfl | assumption); omega)
    | ((with_reducible apply lm_wB); (first | exact rfl | assumption); omega)
    | ((with_reducible apply lm_sAl); (first | exact rfl | assumption); omega)
    | ((with_reducible apply lm_iW); decide))
  simp only [Nat.reduceDiv, Nat.reduceMod]
  rw [h46]
  refine lm_iW eZ ?_
  repeat (first
    | ((with_reducible apply lm_sI); exact rfl)
    | ((with_reducible apply lm_sR); exact rfl)
    | ((with_reducible apply lm_sS); exact rfl; exact rfl)
    | ((with_reducible apply lm_sL); exact rfl)
    | ((with_reducible apply lm_sP); exact rfl; exact rfl)
    | ((with_reducible apply lm_sPL); exact rfl; exact rfl)
    | ((with_reducible apply lm_sAA); exact rfl; exact rfl)
    | ((with_reducible apply lm_sA); (first | exact rfl | assumption); omega)
    | ((with_reducible apply lm_sJ); (first | exact rfl | assumption); omega)
    | ((with_reducible apply lm_sB); (first | exact rfl | assumption); omega)
    | ((with_reducible apply lm_wA); (first | exact rfl | assumption); omega)
    | ((with_reducible apply lm_wJ); (first | exact rfl | assumption); omega)
    | ((with_reducible apply lm_wB); (first | exact rfl | assumption); omega)
    | ((with_reducible apply lm_sAl); (first | exact rfl | assumption); omega)
    | ((with_reducible apply lm_iW); decide))
  simp only [Nat.reduceDiv, Nat.reduceMod]
  rw [h46, eR, lm_oN (lm_dg2 s)]
  have hm : 0 ≤ r % (2 * ((lm_dg2 s : Nat) : Int)) ∧ r % (2 * ((lm_dg2 s : Nat) : Int)) < 2 * ((lm_dg2 s : Nat) : Int) := ⟨Int.emod_nonneg _ (by omega), Int.emod_lt_of_pos _ (by omega)⟩
  by_cases c : r % (2 * ((lm_dg2 s : Nat) : Int)) ≤ ((lm_dg2 s : Nat) : Int)
  · refine lm_zleT (by omega) (by omega) c ?_
    exact fin _ (by unfold lm_lx; rw [if_pos c])
  · refine lm_zleF (by omega) (by omega) c ?_
    repeat (first
    | ((with_reducible apply lm_sI); exact rfl)
    | ((with_reducible apply lm_sR); exact rfl)
    | ((with_reducible apply lm_sS); exact rfl; exact rfl)
    | ((with_reducible apply lm_sL); exact rfl)
    | ((with_reducible apply lm_sP); exact rfl; exact rfl)
    | ((with_reducible apply lm_sPL); exact rfl; exact rfl)
    | ((with_reducible apply lm_sAA); exact rfl; exact rfl)
    | ((with_reducible apply lm_sA); (first | exact rfl | assumption); omega)
    | ((with_reducible apply lm_sJ); (first | exact rfl | assumption); omega)
    | ((with_reducible apply lm_sB); (first | exact rfl | assumption); omega)
    | ((with_reducible apply lm_wA); (first | exact rfl | assumption); omega)
    | ((with_reducible apply lm_wJ); (first | exact rfl | assumption); omega)
    | ((with_reducible apply lm_wB); (first | exact rfl | assumption); omega)
    | ((with_reducible apply lm_sAl); (first | exact rfl | assumption); omega)
    | ((with_reducible apply lm_iW); decide))
    simp only [Nat.reduceDiv, Nat.reduceMod]
    rw [h46]
    exact fin _ (by unfold lm_lx; rw [if_neg c, lm_oN (lm_dg2 s), lm_iM, lm_iS])
end LMRF
