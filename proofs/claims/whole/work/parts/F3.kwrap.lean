/-! ===== kemWrap of the class ===== -/
/-- every number of the public key is below q -/
def lm_kfit (K : Nat → Int32) (k : Nat) : Prop := ∀ i c, i < k → c < 256 → lm_T12 K 0 i c < 3329
theorem lm_T12_ext {K K' : Nat → Int32} {a a' j c : Nat} (hc : c < 256) (h : ∀ t, t < 384 → lm_b8 (K (a + 384 * j + t)) = lm_b8 (K' (a' + 384 * j + t))) : lm_T12 K a j c = lm_T12 K' a' j c := by
  unfold lm_T12
  congr 1
  refine lm_bv_ext fun u hu => ?_
  unfold ln_bt
  dsimp only
  rw [lm_b8_ne (h ((c * 12 + u) / 8) (by omega))]
section LMWC
variable {xs : List Int32} {sc : lm_H} {C : lm_CX} {d k e s : Nat} {m : lm_MI} {n : lm_ML} {x : lm_H × Nat × Nat}
theorem lm_l159c {i : Nat} (hi : i < 4) (hT : ∀ c, c < 256 → m 70 c = Int32.ofInt (lm_T12 (m 29) 0 i c)) : ((∀ c, c < 256 → lm_T12 (m 29) 0 i c < 3329) ∧ ∀ R, lm_rn sc (d + 1) lm_m159.2.2.2.2.1 (lm_reg lm_m159.2.2.2.2.2) (43, [(0, .ref 44), (1, .ref 28), (2, .int (Int32.ofNat i)), (3, .int (Int32.ofNat 256))], []) (lm_w m n x) = some R → lm_rn sc (d + 1) lm_m159.2.2.2.2.1 (lm_reg lm_m159.2.2.2.2.2) (43, [(0, .ref 44), (1, .ref 28), (2, .int (Int32.ofNat i)), (3, .int (Int32.ofNat 0))], []) (lm_w m n x) = some R) ∨ ((∃ c, c < 256 ∧ ¬ lm_T12 (m 29) 0 i c < 3329) ∧ lm_rn sc (d + 1) lm_m159.2.2.2.2.1 (lm_reg lm_m159.2.2.2.2.2) (43, [(0, .ref 44), (1, .ref 28), (2, .int (Int32.ofNat i)), (3, .int (Int32.ofNat 0))], []) (lm_w m n x) = some (.ok (some (.int (lm_z false))), lm_w m n x)) := by
  rcases lm_lpe (sc := sc) (d := d + 1) (b := 256) (hs := lm_m159.2.2.2.2.1) (code := lm_reg lm_m159.2.2.2.2.2) (x := x) (fr := fun c => (43, [(0, .ref 44), (1, .ref 28), (2, .int (Int32.ofNat i)), (3, .int (Int32.ofNat c))], [])) (I := fun c m' n' => m' = m ∧ n' = n ∧ ∀ c', c' < c → lm_T12 (m 29) 0 i c' < 3329) (E := fun R => R = (.ok (some (.int (lm_z false))), lm_w m n x) ∧ ∃ c, c < 256 ∧ ¬ lm_T12 (m 29) 0 i c < 3329) (fun c hc m1 n1 ⟨e1, e2, h⟩ => by
    subst e1
    subst e2
    have hr := lm_T12_rg (K := m1 29) (a := 0) (j := i) c hc
    have e : Int32.ofInt (lm_T12 (m1 29) 0 i c) = Int32.ofNat (lm_T12 (m1 29) 0 i c).toNat := by rw [lm_oN, Int.toNat_of_nonneg hr.1]
    by_cases cc : lm_T12 (m1 29) 0 i c < 3329
    · refine Or.inl ⟨m1, n1, ⟨rfl, rfl, fun c' hc' => ?_⟩, fun R K => lm_e159_43 ?_⟩
      · by_cases c0 : c' = c
        · subst c0; exact cc
        · exact h c' (by omega)
      · unfold lm_q159_43
        rw [lm_K256, lm_K3329]
        refine lm_geF (by omega) (by omega) (by omega) ?_
        repeat (first
    | ((with_reducible apply lm_sI); exact rfl)
    | ((with_reducible apply lm_sR); exact rfl)
    | ((with_reducible apply lm_sS); exact rfl; exact rfl)
    | ((with_reducible apply lm_sL); exact rfl)
    | ((with_reducible apply lm_sP); exact rfl; exact rfl)
    | ((with_reducible apply lm_sPL); exact rfl; exact rfl)
    | ((with_reducible apply lm_sAA); exact rfl; exact rfl)
    | ((with_reducible apply lm_sA); (first | exact rfl | assumption); omega)
    | ((with_reducible apply lm_sJ); (first | exact rfl | assumption); omega)
    | ((with_reducible apply lm_sB); (first | exact rfl | assumption); omega)
    | ((with_reducible apply lm_wA); (first | exact rfl | assumption); omega)
    | ((with_reducible apply lm_wJ); (first | exact rfl | assumption); omega)
    | ((with_reducible apply lm_wB); (first | exact rfl | assumption); omega)
    | ((with_reducible apply lm_sAl); (first | exact rfl | assumption); omega)
    | ((with_reducible apply lm_iW); decide))
        rw [hT c hc, e]
        refine lm_ltT (by omega) (by omega) (by omega) ?_
        rw [lm_K1, lm_oo]
        exact K
    · refine Or.inr ⟨_, ⟨rfl, c, hc, cc⟩, lm_e159_43 ?_⟩
      unfold lm_q159_43
      rw [lm_K256, lm_K3329]
      refine lm_geF (by omega) (by omega) (by omega) ?_
      repeat (first
    | ((with_reducible apply lm_sI); exact rfl)
    | ((with_reducible apply lm_sR); exact rfl)
    | ((with_reducible apply lm_sS); exact rfl; exact rfl)
    | ((with_reducible apply lm_sL); exact rfl)
    | ((with_reducible apply lm_sP); exact rfl; exact rfl)
    | ((with_reducible apply lm_sPL); exact rfl; exact rfl)
    | ((with_reducible apply lm_sAA); exact rfl; exact rfl)
    | ((with_reducible apply lm_sA); (first | exact rfl | assumption); omega)
    | ((with_reducible apply lm_sJ); (first | exact rfl | assumption); omega)
    | ((with_reducible apply lm_sB); (first | exact rfl | assumption); omega)
    | ((with_reducible apply lm_wA); (first | exact rfl | assumption); omega)
    | ((with_reducible apply lm_wJ); (first | exact rfl | assumption); omega)
    | ((with_reducible apply lm_wB); (first | exact rfl | assumption); omega)
    | ((with_reducible apply lm_sAl); (first | exact rfl | assumption); omega)
    | ((with_reducible apply lm_iW); decide))
      rw [hT c hc, e]
      refine lm_ltF (by omega) (by omega) (by omega) (lm_iW (by decide) ?_)
      rfl) 256 0 (by omega) m n ⟨rfl, rfl, fun c' hc' => absurd hc' (by omega)⟩ with ⟨m', n', ⟨e1, e2, h⟩, K⟩ | ⟨R, ⟨eR, h⟩, K⟩
  · subst e1
    subst e2
    exact Or.inl ⟨h, K⟩
  · rw [eR] at K
    exact Or.inr ⟨h, K⟩
/-- takesPublic -/
theorem lm_u159 {l : Nat} (hk : m 44 12 = Int32.ofNat k) (hk4 : k ≤ 4) (hl : m 28 1 = Int32.ofNat l) (hl2 : l ≤ 65536) : ∃ m', (∀ r, r ≠ 70 → m' r = m r) ∧ ((lm_cal sc (d + 2) 159 [.ref 44, .ref 28] (lm_w m n x) = some (.ok (some (.int (lm_z true))), lm_w m' n x) ∧ l = 384 * k + 32 ∧ lm_kfit (m 29) k) ∨ (lm_cal sc (d + 2) 159 [.ref 44, .ref 28] (lm_w m n x) = some (.ok (some (.int (lm_z false))), lm_w m' n x) ∧ ¬ (l = 384 * k + 32 ∧ lm_kfit (m 29) k))) := by
  have u222 : lm_cal sc (d + 1) 222 [.ref 44] (lm_w m n x) = some (.ok (some (.int (Int32.ofNat (384 * k + 32)))), lm_w m n x) := by
    refine lm_cal_of (Y := lm_m222) rfl rfl (lm_e222_0 ?_)
    unfold lm_q222_0
    repeat (first
    | ((with_reducible apply lm_sI); exact rfl)
    | ((with_reducible apply lm_sR); exact rfl)
    | ((with_reducible apply lm_sS); exact rfl; exact rfl)
    | ((with_reducible apply lm_sL); exact rfl)
    | ((with_reducible apply lm_sP); exact rfl; exact rfl)
    | ((with_reducible apply lm_sPL); exact rfl; exact rfl)
    | ((with_reducible apply lm_sAA); exact rfl; exact rfl)
    | ((with_reducible apply lm_sA); (first | exact rfl | assumption); omega)
    | ((with_reducible apply lm_sJ); (first | exact rfl | assumption); omega)
    | ((with_reducible apply lm_sB); (first | exact rfl | assumption); omega)
    | ((with_reducible apply lm_wA); (first | exact rfl | assumption); omega)
    | ((with_reducible apply lm_wJ); (first | exact rfl | assumption); omega)
    | ((with_reducible apply lm_wB); (first | exact rfl | assumption); omega)
    | ((with_reducible apply lm_sAl); (first | exact rfl | assumption); omega)
    | ((with_reducible apply lm_iW); decide))
    simp only [Nat.reduceDiv, Nat.reduceMod]
    rw [hk, lm_K384, lm_K32, lm_om, lm_oo]
    rfl
  by_cases cl : l = 384 * k + 32
  · subst cl
    have head : ∀ R, lm_rn sc (d + 1) lm_m159.2.2.2.2.1 (lm_reg lm_m159.2.2.2.2.2) (15, [(0, .ref 44), (1, .ref 28), (2, .int (Int32.ofNat 0))], []) (lm_w m n x) = some R → lm_cal sc (d + 2) 159 [.ref 44, .ref 28] (lm_w m n x) = some R := by
      intro R K
      refine lm_cal_of (Y := lm_m159) rfl rfl (lm_e159_0 ?_)
      unfold lm_q159_0
      repeat (first
    | ((with_reducible apply lm_sI); exact rfl)
    | ((with_reducible apply lm_sR); exact rfl)
    | ((with_reducible apply lm_sS); exact rfl; exact rfl)
    | ((with_reducible apply lm_sL); exact rfl)
    | ((with_reducible apply lm_sP); exact rfl; exact rfl)
    | ((with_reducible apply lm_sPL); exact rfl; exact rfl)
    | ((with_reducible apply lm_sAA); exact rfl; exact rfl)
    | ((with_reducible apply lm_sA); (first | exact rfl | assumption); omega)
    | ((with_reducible apply lm_sJ); (first | exact rfl | assumption); omega)
    | ((with_reducible apply lm_sB); (first | exact rfl | assumption); omega)
    | ((with_reducible apply lm_wA); (first | exact rfl | assumption); omega)
    | ((with_reducible apply lm_wJ); (first | exact rfl | assumption); omega)
    | ((with_reducible apply lm_wB); (first | exact rfl | assumption); omega)
    | ((with_reducible apply lm_sAl); (first | exact rfl | assumption); omega)
    | ((with_reducible apply lm_iW); decide))
      simp only [Nat.reduceDiv, Nat.reduceMod]
      rw [hl]
      refine lm_cI u222 ?_
      refine lm_eqT (by omega) (by omega) rfl ?_
      rw [lm_K0]
      exact K
    rcases lm_lpe (sc := sc) (d := d + 1) (b := k) (hs := lm_m159.2.2.2.2.1) (code := lm_reg lm_m159.2.2.2.2.2) (x := x) (fr := fun i => (15, [(0, .ref 44), (1, .ref 28), (2, .int (Int32.ofNat i))], [])) (I := fun i m' n' => n' = n ∧ (∀ r, r ≠ 70 → m' r = m r) ∧ ∀ i' c, i' < i → c < 256 → lm_T12 (m 29) 0 i' c < 3329) (E := fun R => ∃ m', R = (.ok (some (.int (lm_z false))), lm_w m' n x) ∧ (∀ r, r ≠ 70 → m' r = m r) ∧ ∃ i c, i < k ∧ c < 256 ∧ ¬ lm_T12 (m 29) 0 i c < 3329) (fun i hi m1 n1 ⟨e2, h1, h⟩ => by
      subst e2
      obtain ⟨m2, c2, p2⟩ := lm_u227 (sc := sc) (e := d) (m := m1) (n := n1) (x := x) (q := 29) (v := 65536) (p := 70) (a := 384 * i) (d := 12) rfl rfl (by decide) (by decide) (by decide) (by decide) (by omega)
      have r2 : ∀ r, r ≠ 70 → m2 r = m r := fun r hr => (p2.1 r hr).trans (h1 r hr)
      have e29 : m2 29 = m 29 := r2 29 (by decide)
      have hT : ∀ c, c < 256 → m2 70 c = Int32.ofInt (lm_T12 (m2 29) 0 i c) := fun c hc => by
        rw [p2.2 c hc, e29, h1 29 (by decide)]
        unfold lm_T12
        rw [Nat.zero_add]
      have pre : ∀ R, lm_rn sc (d + 1) lm_m159.2.2.2.2.1 (lm_reg lm_m159.2.2.2.2.2) (43, [(0, .ref 44), (1, .ref 28), (2, .int (Int32.ofNat i)), (3, .int (Int32.ofNat 0))], []) (lm_w m2 n1 x) = some R → lm_rn sc (d + 1) lm_m159.2.2.2.2.1 (lm_reg lm_m159.2.2.2.2.2) (15, [(0, .ref 44), (1, .ref 28), (2, .int (Int32.ofNat i))], []) (lm_w m1 n1 x) = some R := by
        intro R K
        refine lm_e159_15 ?_
        unfold lm_q159_15
        repeat (first
    | ((with_reducible apply lm_sI); exact rfl)
    | ((with_reducible apply lm_sR); exact rfl)
    | ((with_reducible apply lm_sS); exact rfl; exact rfl)
    | ((with_reducible apply lm_sL); exact rfl)
    | ((with_reducible apply lm_sP); exact rfl; exact rfl)
    | ((with_reducible apply lm_sPL); exact rfl; exact rfl)
    | ((with_reducible apply lm_sAA); exact rfl; exact rfl)
    | ((with_reducible apply lm_sA); (first | exact rfl | assumption); omega)
    | ((with_reducible apply lm_sJ); (first | exact rfl | assumption); omega)
    | ((with_reducible apply lm_sB); (first | exact rfl | assumption); omega)
    | ((with_reducible apply lm_wA); (first | exact rfl | assumption); omega)
    | ((with_reducible apply lm_wJ); (first | exact rfl | assumption); omega)
    | ((with_reducible apply lm_wB); (first | exact rfl | assumption); omega)
    | ((with_reducible apply lm_sAl); (first | exact rfl | assumption); omega)
    | ((with_reducible apply lm_iW); decide))
        simp only [Nat.reduceDiv, Nat.reduceMod]
        rw [h1 44 (by decide), hk]
        refine lm_geF (by omega) (by omega) (by omega) ?_
        repeat (first
    | ((with_reducible apply lm_sI); exact rfl)
    | ((with_reducible apply lm_sR); exact rfl)
    | ((with_reducible apply lm_sS); exact rfl; exact rfl)
    | ((with_reducible apply lm_sL); exact rfl)
    | ((with_reducible apply lm_sP); exact rfl; exact rfl)
    | ((with_reducible apply lm_sPL); exact rfl; exact rfl)
    | ((with_reducible apply lm_sAA); exact rfl; exact rfl)
    | ((with_reducible apply lm_sA); (first | exact rfl | assumption); omega)
    | ((with_reducible apply lm_sJ); (first | exact rfl | assumption); omega)
    | ((with_reducible apply lm_sB); (first | exact rfl | assumption); omega)
    | ((with_reducible apply lm_wA); (first | exact rfl | assumption); omega)
    | ((with_reducible apply lm_wJ); (first | exact rfl | assumption); omega)
    | ((with_reducible apply lm_wB); (first | exact rfl | assumption); omega)
    | ((with_reducible apply lm_sAl); (first | exact rfl | assumption); omega)
    | ((with_reducible apply lm_iW); decide))
        rw [lm_K384, lm_K12, lm_om, lm_K0]
        exact lm_cV c2 K
      rcases lm_l159c (sc := sc) (d := d) (n := n1) (x := x) (m := m2) (i := i) (by omega) hT with ⟨g, K⟩ | ⟨⟨c, hc, g⟩, K⟩
      · rw [e29] at g
        refine Or.inl ⟨m2, n1, ⟨rfl, r2, fun i' c hi' hc => ?_⟩, fun R K2 => pre R (K R (lm_e159_43 ?_))⟩
        · by_cases c0 : i' = i
          · subst c0; exact g c hc
          · exact h i' c (by omega) hc
        · unfold lm_q159_43
          rw [lm_K256]
          refine lm_geT (by omega) (by omega) (by omega) ?_
          rw [lm_K1, lm_oo]
          exact K2
      · rw [e29] at g
        exact Or.inr ⟨_, ⟨m2, rfl, r2, i, c, hi, hc, g⟩, pre _ K⟩) k 0 (by omega) m n ⟨rfl, fun _ _ => rfl, fun i' c hi' => absurd hi' (by omega)⟩ with ⟨m', n', ⟨e2, h1, h⟩, K⟩ | ⟨R, ⟨m', eR, h1, i, c, hi, hc, g⟩, K⟩
    · subst e2
      refine ⟨m', h1, Or.inl ⟨head _ (K _ (lm_e159_15 ?_)), rfl, h⟩⟩
      unfold lm_q159_15
      repeat (first
    | ((with_reducible apply lm_sI); exact rfl)
    | ((with_reducible apply lm_sR); exact rfl)
    | ((with_reducible apply lm_sS); exact rfl; exact rfl)
    | ((with_reducible apply lm_sL); exact rfl)
    | ((with_reducible apply lm_sP); exact rfl; exact rfl)
    | ((with_reducible apply lm_sPL); exact rfl; exact rfl)
    | ((with_reducible apply lm_sAA); exact rfl; exact rfl)
    | ((with_reducible apply lm_sA); (first | exact rfl | assumption); omega)
    | ((with_reducible apply lm_sJ); (first | exact rfl | assumption); omega)
    | ((with_reducible apply lm_sB); (first | exact rfl | assumption); omega)
    | ((with_reducible apply lm_wA); (first | exact rfl | assumption); omega)
    | ((with_reducible apply lm_wJ); (first | exact rfl | assumption); omega)
    | ((with_reducible apply lm_wB); (first | exact rfl | assumption); omega)
    | ((with_reducible apply lm_sAl); (first | exact rfl | assumption); omega)
    | ((with_reducible apply lm_iW); decide))
      simp only [Nat.reduceDiv, Nat.reduceMod]
      rw [h1 44 (by decide), hk]
      refine lm_geT (by omega) (by omega) (by omega) (lm_iW (by decide) ?_)
      rfl
    · rw [eR] at K
      exact ⟨m', h1, Or.inr ⟨head _ K, fun w => g (w.2 i c hi hc)⟩⟩
  · refine ⟨m, fun _ _ => rfl, Or.inr ⟨?_, fun w => cl w.1⟩⟩
    refine lm_cal_of (Y := lm_m159) rfl rfl (lm_e159_0 ?_)
    unfold lm_q159_0
    repeat (first
    | ((with_reducible apply lm_sI); exact rfl)
    | ((with_reducible apply lm_sR); exact rfl)
    | ((with_reducible apply lm_sS); exact rfl; exact rfl)
    | ((with_reducible apply lm_sL); exact rfl)
    | ((with_reducible apply lm_sP); exact rfl; exact rfl)
    | ((with_reducible apply lm_sPL); exact rfl; exact rfl)
    | ((with_reducible apply lm_sAA); exact rfl; exact rfl)
    | ((with_reducible apply lm_sA); (first | exact rfl | assumption); omega)
    | ((with_reducible apply lm_sJ); (first | exact rfl | assumption); omega)
    | ((with_reducible apply lm_sB); (first | exact rfl | assumption); omega)
    | ((with_reducible apply lm_wA); (first | exact rfl | assumption); omega)
    | ((with_reducible apply lm_wJ); (first | exact rfl | assumption); omega)
    | ((with_reducible apply lm_wB); (first | exact rfl | assumption); omega)
    | ((with_reducible apply lm_sAl); (first | exact rfl | assumption); omega)
    | ((with_reducible apply lm_iW); decide))
    simp only [Nat.reduceDiv, Nat.reduceMod]
    rw [hl]
    refine lm_cI u222 ?_
    refine lm_eqF (by omega) (by omega) cl (lm_iW (by decide) ?_)
    rfl
/-- the pair of kemWrap: of the random bytes and the hash of the key -/
def lm_gw (R H : Nat → Int32) (i : Nat) : Int32 := if i < 32 then lm_b8 (R i) else lm_b8 (H (i - 32))
def lm_kQ (C : lm_CX) (R H : Nat → Int32) : Nat → Int32 := lm_Hm C 10 (lm_gw R H) 64
def lm_kH (C : lm_CX) (K : Nat → Int32) (a k : Nat) : Nat → Int32 := lm_Hm C 8 (fun t => lm_b8 (K (a + t))) (384 * k + 32)
end LMWC
