/-! ===== an attempt of the reference: lows and hints ===== -/
noncomputable def lm_bz (p : Prop) : Int32 := @ite _ p (Classical.propDecidable p) 0 1
theorem lm_bz_t {p : Prop} (h : p) : lm_bz p = 0 := by unfold lm_bz; rw [if_pos h]
theorem lm_bz_f {p : Prop} (h : ¬ p) : lm_bz p = 1 := by unfold lm_bz; rw [if_neg h]
theorem lm_bz_and {p q : Prop} (h : p) : lm_bz (q ∧ p) = lm_bz q := by rw [show (q ∧ p) = q from propext ⟨fun g => g.1, fun g => ⟨g, h⟩⟩]
theorem lm_arH : ∀ t, t < 8 → lm_ar (319 + t) = some (2, 256) := by decide
theorem lm_roH : ∀ t, t < 8 → ([320, 321, 322, 323, 324, 325, 326, 327] : List Nat)[t]? = some (319 + t + 1) := by decide
section LMSA
variable {sc : lm_H} {C : lm_CX} {d s j : Nat} {m m0 : lm_MI} {n n0 : lm_ML} {x : lm_H × Nat × Nat}
/-- the lows of a row -/
theorem lm_l99i {i b : Nat} {x3 : Int32} {W Rr D : Nat → Int} {G : Nat → Prop} (hs : s ≤ 2) (hi : i < 8) (hb : b ≤ 1000) (h46 : m 203 46 = Int32.ofNat (lm_dg2 s)) (hW : ∀ c, c < 256 → m (270 + (30 + i)) c = Int32.ofInt (W c) ∧ 0 ≤ W c ∧ W c < 8380417) (hD : ∀ c, c < 256 → m 317 c = Int32.ofInt (D c) ∧ -4190208 ≤ D c ∧ D c ≤ 4190208) (hR : ∀ c, c < 256 → Rr c = (W c - D c) % 8380417) (hG : ∀ c, c < 256 → G (c + 1) = (G c ∧ (-((lm_dg2 s - b : Nat) : Int) < ln_lo (lm_dg2 s) (Rr c) ∧ ln_lo (lm_dg2 s) (Rr c) < (lm_dg2 s - b : Nat)))) : ∃ m', (∀ r, r ≠ 270 + (30 + i) → m' r = m r) ∧ (∀ c, c < 256 → m' (270 + (30 + i)) c = Int32.ofInt (Rr c)) ∧ ∀ R, lm_rn sc (d + 6) lm_m99.2.2.2.2.1 (lm_reg lm_m99.2.2.2.2.2) (521, [(0, .ref 203), (2, .int (Int32.ofNat b)), (3, .int x3), (4, .int (lm_bz (G 256))), (5, .int (Int32.ofNat i)), (6, .int (Int32.ofNat 256))], []) (lm_w m' n x) = some R → lm_rn sc (d + 6) lm_m99.2.2.2.2.1 (lm_reg lm_m99.2.2.2.2.2) (521, [(0, .ref 203), (2, .int (Int32.ofNat b)), (3, .int x3), (4, .int (lm_bz (G 0))), (5, .int (Int32.ofNat i)), (6, .int (Int32.ofNat 0))], []) (lm_w m n x) = some R := by
  have aY := lm_arY (30 + i) (by omega)
  have hg := lm_g2_2 hs
  obtain ⟨m', n', ⟨en, g1, g2, g3⟩, k1⟩ := lm_lp (sc := sc) (d := d + 6) (b := 256) (hs := lm_m99.2.2.2.2.1) (code := lm_reg lm_m99.2.2.2.2.2) (x := x) (fr := fun c => (521, [(0, .ref 203), (2, .int (Int32.ofNat b)), (3, .int x3), (4, .int (lm_bz (G c))), (5, .int (Int32.ofNat i)), (6, .int (Int32.ofNat c))], [])) (I := fun c m' n' => n' = n ∧ (∀ r, r ≠ 270 + (30 + i) → m' r = m r) ∧ (∀ c', c' < c → m' (270 + (30 + i)) c' = Int32.ofInt (Rr c')) ∧ ∀ c', c ≤ c' → m' (270 + (30 + i)) c' = m (270 + (30 + i)) c') (fun c hc m1 n1 ⟨en, g1, g2, g3⟩ => by
    have hw := hW c hc
    have hd := hD c hc
    have er := hR c hc
    have eG := hG c hc
    have br : 0 ≤ Rr c ∧ Rr c < 8380417 := by rw [er]; exact ⟨Int.emod_nonneg _ (by decide), Int.emod_lt_of_pos _ (by decide)⟩
    have bl := lm_lo_b hg br
    have eW : m1 (270 + (30 + i)) c = Int32.ofInt (W c) := by rw [g3 c (by omega)]; exact hw.1
    have eD : m1 317 c = Int32.ofInt (D c) := by rw [g1 317 (by omega)]; exact hd.1
    have ev : lm_rem ((m1 (270 + (30 + i)) c - m1 317 c) + Int32.ofInt 8380417) (Int32.ofInt 8380417) = Int32.ofInt (Rr c) := by
      rw [eW, eD, lm_iS, lm_iA, lm_iR (by omega) (by omega) (by decide) (by decide), Int.tmod_eq_emod_of_nonneg (by omega), Int.add_emod_right, ← er]
    generalize eM : lm_u m1 (270 + (30 + i)) c (Int32.ofInt (Rr c)) = M
    have rM : ∀ r, r ≠ 270 + (30 + i) → M r = m1 r := fun r hr => by rw [← eM, lm_u_row hr]
    have h46' : M 203 46 = Int32.ofNat (lm_dg2 s) := by rw [rM 203 (by omega), g1 203 (by omega)]; exact h46
    have eZ : M (270 + (30 + i)) c = Int32.ofInt (Rr c) := by rw [← eM, lm_u_eq]
    have u := lm_u104 (sc := sc) (d := d + 5) (m := M) (n := n1) (x := x) (r := Rr c) hs h46' br
    refine ⟨M, n1, ⟨en, fun r hr => by rw [rM r hr, g1 r hr], fun c' hc' => ?_, fun c' hc' => ?_⟩, fun R KK => lm_e99_521 ?_⟩
    · by_cases c0 : c' = c
      · subst c0; exact eZ
      · rw [← eM, lm_u_ne (fun q => c0 q.2)]; exact g2 c' (by omega)
    · rw [← eM, lm_u_ne (by omega)]; exact g3 c' (by omega)
    · clear g2 g3 hW hD hR hG
      rw [eG] at KK
      have e618 : ∀ w, w = lm_bz (G c ∧ (-((lm_dg2 s - b : Nat) : Int) < ln_lo (lm_dg2 s) (Rr c) ∧ ln_lo (lm_dg2 s) (Rr c) < (lm_dg2 s - b : Nat))) → lm_rn sc (d + 6) lm_m99.2.2.2.2.1 (lm_reg lm_m99.2.2.2.2.2) (618, [(0, .ref 203), (2, .int (Int32.ofNat b)), (3, .int x3), (4, .int w), (5, .int (Int32.ofNat i)), (6, .int (Int32.ofNat c))], []) (lm_w M n1 x) = some R := by
        intro w hw
        subst hw
        refine lm_e99_618 ?_
        unfold lm_q99_618
        rw [lm_K1, lm_oo]
        exact KK
      have e615 : ¬ (-((lm_dg2 s - b : Nat) : Int) < ln_lo (lm_dg2 s) (Rr c) ∧ ln_lo (lm_dg2 s) (Rr c) < (lm_dg2 s - b : Nat)) → lm_rn sc (d + 6) lm_m99.2.2.2.2.1 (lm_reg lm_m99.2.2.2.2.2) (615, [(0, .ref 203), (2, .int (Int32.ofNat b)), (3, .int x3), (5, .int (Int32.ofNat i)), (6, .int (Int32.ofNat c))], []) (lm_w M n1 x) = some R := by
        intro cz
        refine lm_e99_615 ?_
        unfold lm_q99_615
        exact e618 _ (by rw [lm_bz_f (fun q => cz q.2)]; rfl)
      unfold lm_q99_521
      rw [lm_K256]
      refine lm_geF (by omega) (by omega) (by omega) ?_
      rw [show Int32.ofInt 30 = Int32.ofNat 30 from rfl, show Int32.ofInt 47 = Int32.ofNat 47 from rfl, lm_oo]
      repeat (first
    | ((with_reducible apply lm_sI); exact rfl)
    | ((with_reducible apply lm_sR); exact rfl)
    | ((with_reducible apply lm_sS); exact rfl; exact rfl)
    | ((with_reducible apply lm_sL); exact rfl)
    | ((with_reducible apply lm_sP); exact rfl; exact rfl)
    | ((with_reducible apply lm_sPL); exact rfl; exact rfl)
    | ((with_reducible apply lm_sAA); exact rfl; exact rfl)
    | ((with_reducible apply lm_sA); (first | exact rfl | assumption); omega)
    | ((with_reducible apply lm_sJ); (first | exact rfl | assumption); omega)
    | ((with_reducible apply lm_sB); (first | exact rfl | assumption); omega)
    | ((with_reducible apply lm_wA); (first | exact rfl | assumption); omega)
    | ((with_reducible apply lm_wJ); (first | exact rfl | assumption); omega)
    | ((with_reducible apply lm_wB); (first | exact rfl | assumption); omega)
    | ((with_reducible apply lm_sAl); (first | exact rfl | assumption); omega)
    | ((with_reducible apply lm_iW); decide))
      refine lm_sAA rfl (lm_roY (30 + i) (by omega)) ?_
      repeat (first
    | ((with_reducible apply lm_sI); exact rfl)
    | ((with_reducible apply lm_sR); exact rfl)
    | ((with_reducible apply lm_sS); exact rfl; exact rfl)
    | ((with_reducible apply lm_sL); exact rfl)
    | ((with_reducible apply lm_sP); exact rfl; exact rfl)
    | ((with_reducible apply lm_sPL); exact rfl; exact rfl)
    | ((with_reducible apply lm_sAA); exact rfl; exact rfl)
    | ((with_reducible apply lm_sA); (first | exact rfl | assumption); omega)
    | ((with_reducible apply lm_sJ); (first | exact rfl | assumption); omega)
    | ((with_reducible apply lm_sB); (first | exact rfl | assumption); omega)
    | ((with_reducible apply lm_wA); (first | exact rfl | assumption); omega)
    | ((with_reducible apply lm_wJ); (first | exact rfl | assumption); omega)
    | ((with_reducible apply lm_wB); (first | exact rfl | assumption); omega)
    | ((with_reducible apply lm_sAl); (first | exact rfl | assumption); omega)
    | ((with_reducible apply lm_iW); decide))
      refine lm_sAA rfl (lm_roY (30 + i) (by omega)) ?_
      repeat (first
    | ((with_reducible apply lm_sI); exact rfl)
    | ((with_reducible apply lm_sR); exact rfl)
    | ((with_reducible apply lm_sS); exact rfl; exact rfl)
    | ((with_reducible apply lm_sL); exact rfl)
    | ((with_reducible apply lm_sP); exact rfl; exact rfl)
    | ((with_reducible apply lm_sPL); exact rfl; exact rfl)
    | ((with_reducible apply lm_sAA); exact rfl; exact rfl)
    | ((with_reducible apply lm_sA); (first | exact rfl | assumption); omega)
    | ((with_reducible apply lm_sJ); (first | exact rfl | assumption); omega)
    | ((with_reducible apply lm_sB); (first | exact rfl | assumption); omega)
    | ((with_reducible apply lm_wA); (first | exact rfl | assumption); omega)
    | ((with_reducible apply lm_wJ); (first | exact rfl | assumption); omega)
    | ((with_reducible apply lm_wB); (first | exact rfl | assumption); omega)
    | ((with_reducible apply lm_sAl); (first | exact rfl | assumption); omega)
    | ((with_reducible apply lm_iW); decide))
      rw [ev, eM]
      repeat (first
    | ((with_reducible apply lm_sI); exact rfl)
    | ((with_reducible apply lm_sR); exact rfl)
    | ((with_reducible apply lm_sS); exact rfl; exact rfl)
    | ((with_reducible apply lm_sL); exact rfl)
    | ((with_reducible apply lm_sP); exact rfl; exact rfl)
    | ((with_reducible apply lm_sPL); exact rfl; exact rfl)
    | ((with_reducible apply lm_sAA); exact rfl; exact rfl)
    | ((with_reducible apply lm_sA); (first | exact rfl | assumption); omega)
    | ((with_reducible apply lm_sJ); (first | exact rfl | assumption); omega)
    | ((with_reducible apply lm_sB); (first | exact rfl | assumption); omega)
    | ((with_reducible apply lm_wA); (first | exact rfl | assumption); omega)
    | ((with_reducible apply lm_wJ); (first | exact rfl | assumption); omega)
    | ((with_reducible apply lm_wB); (first | exact rfl | assumption); omega)
    | ((with_reducible apply lm_sAl); (first | exact rfl | assumption); omega)
    | ((with_reducible apply lm_iW); decide))
      refine lm_sAA rfl (lm_roY (30 + i) (by omega)) ?_
      repeat (first
    | ((with_reducible apply lm_sI); exact rfl)
    | ((with_reducible apply lm_sR); exact rfl)
    | ((with_reducible apply lm_sS); exact rfl; exact rfl)
    | ((with_reducible apply lm_sL); exact rfl)
    | ((with_reducible apply lm_sP); exact rfl; exact rfl)
    | ((with_reducible apply lm_sPL); exact rfl; exact rfl)
    | ((with_reducible apply lm_sAA); exact rfl; exact rfl)
    | ((with_reducible apply lm_sA); (first | exact rfl | assumption); omega)
    | ((with_reducible apply lm_sJ); (first | exact rfl | assumption); omega)
    | ((with_reducible apply lm_sB); (first | exact rfl | assumption); omega)
    | ((with_reducible apply lm_wA); (first | exact rfl | assumption); omega)
    | ((with_reducible apply lm_wJ); (first | exact rfl | assumption); omega)
    | ((with_reducible apply lm_wB); (first | exact rfl | assumption); omega)
    | ((with_reducible apply lm_sAl); (first | exact rfl | assumption); omega)
    | ((with_reducible apply lm_iW); decide))
      rw [eZ]
      refine lm_cI u ?_
      repeat (first
    | ((with_reducible apply lm_sI); exact rfl)
    | ((with_reducible apply lm_sR); exact rfl)
    | ((with_reducible apply lm_sS); exact rfl; exact rfl)
    | ((with_reducible apply lm_sL); exact rfl)
    | ((with_reducible apply lm_sP); exact rfl; exact rfl)
    | ((with_reducible apply lm_sPL); exact rfl; exact rfl)
    | ((with_reducible apply lm_sAA); exact rfl; exact rfl)
    | ((with_reducible apply lm_sA); (first | exact rfl | assumption); omega)
    | ((with_reducible apply lm_sJ); (first | exact rfl | assumption); omega)
    | ((with_reducible apply lm_sB); (first | exact rfl | assumption); omega)
    | ((with_reducible apply lm_wA); (first | exact rfl | assumption); omega)
    | ((with_reducible apply lm_wJ); (first | exact rfl | assumption); omega)
    | ((with_reducible apply lm_wB); (first | exact rfl | assumption); omega)
    | ((with_reducible apply lm_sAl); (first | exact rfl | assumption); omega)
    | ((with_reducible apply lm_iW); decide))
      simp only [Nat.reduceDiv, Nat.reduceMod]
      rw [h46', show Int32.ofNat (lm_dg2 s) - Int32.ofNat b = Int32.ofInt ((lm_dg2 s : Int) - b) by rw [lm_oN, lm_oN, lm_iS]]
      by_cases cg : (lm_dg2 s : Int) - b ≤ ln_lo (lm_dg2 s) (Rr c)
      · refine lm_zgeT (by omega) (by omega) cg ?_
        exact e615 (by omega)
      · refine lm_zgeF (by omega) (by omega) cg ?_
        repeat (first
    | ((with_reducible apply lm_sI); exact rfl)
    | ((with_reducible apply lm_sR); exact rfl)
    | ((with_reducible apply lm_sS); exact rfl; exact rfl)
    | ((with_reducible apply lm_sL); exact rfl)
    | ((with_reducible apply lm_sP); exact rfl; exact rfl)
    | ((with_reducible apply lm_sPL); exact rfl; exact rfl)
    | ((with_reducible apply lm_sAA); exact rfl; exact rfl)
    | ((with_reducible apply lm_sA); (first | exact rfl | assumption); omega)
    | ((with_reducible apply lm_sJ); (first | exact rfl | assumption); omega)
    | ((with_reducible apply lm_sB); (first | exact rfl | assumption); omega)
    | ((with_reducible apply lm_wA); (first | exact rfl | assumption); omega)
    | ((with_reducible apply lm_wJ); (first | exact rfl | assumption); omega)
    | ((with_reducible apply lm_wB); (first | exact rfl | assumption); omega)
    | ((with_reducible apply lm_sAl); (first | exact rfl | assumption); omega)
    | ((with_reducible apply lm_iW); decide))
        simp only [Nat.reduceDiv, Nat.reduceMod]
        rw [h46', show Int32.ofNat b - Int32.ofNat (lm_dg2 s) = Int32.ofInt ((b : Int) - lm_dg2 s) by rw [lm_oN, lm_oN, lm_iS]]
        by_cases cl : (b : Int) - lm_dg2 s < ln_lo (lm_dg2 s) (Rr c)
        · refine lm_zgtT (by omega) (by omega) cl ?_
          exact e618 _ (by rw [lm_bz_and (by omega)])
        · refine lm_zgtF (by omega) (by omega) cl ?_
          exact e615 (by omega)) 256 0 (by omega) m n ⟨rfl, fun _ _ => rfl, fun c' hc' => absurd hc' (by omega), fun _ _ => rfl⟩
  subst en
  exact ⟨m', g1, g2, k1⟩
/-- the hints of a row -/
theorem lm_l99j {i b : Nat} {Rr D : Nat → Nat → Int} {h : Nat → Bool} {G : Nat → Prop} (hs : s ≤ 2) (hi : i < 8) (h46 : m 203 46 = Int32.ofNat (lm_dg2 s)) (hRR : ∀ c, c < 256 → m (270 + (30 + i)) c = Int32.ofInt (Rr i c) ∧ 0 ≤ Rr i c ∧ Rr i c < 8380417) (hD : ∀ c, c < 256 → m 317 c = Int32.ofInt (D i c) ∧ -4190208 ≤ D i c ∧ D i c ≤ 4190208) (hh : h = lm_hf' (lm_dg2 s) Rr D) (hG : ∀ c, c < 256 → G (c + 1) = (G c ∧ (-((lm_dg2 s : Nat) : Int) < D i c ∧ D i c < (lm_dg2 s : Nat)))) : ∃ m', (∀ r, r ≠ 319 + i → m' r = m r) ∧ (∀ c, c < 256 → lm_b1 (m' (319 + i) c) = lm_z (h (256 * i + c))) ∧ ∀ R, lm_rn sc (d + 6) lm_m99.2.2.2.2.1 (lm_reg lm_m99.2.2.2.2.2) (655, [(0, .ref 203), (2, .int (Int32.ofNat b)), (3, .int (Int32.ofNat (lm_hs h (256 * i + 256)).1)), (4, .int (lm_bz (G 256))), (5, .int (Int32.ofNat i)), (6, .int (Int32.ofNat 256))], []) (lm_w m' n x) = some R → lm_rn sc (d + 6) lm_m99.2.2.2.2.1 (lm_reg lm_m99.2.2.2.2.2) (655, [(0, .ref 203), (2, .int (Int32.ofNat b)), (3, .int (Int32.ofNat (lm_hs h (256 * i + 0)).1)), (4, .int (lm_bz (G 0))), (5, .int (Int32.ofNat i)), (6, .int (Int32.ofNat 0))], []) (lm_w m n x) = some R := by
  have aY := lm_arY (30 + i) (by omega)
  have aH := lm_arH i hi
  have hg := lm_g2_2 hs
  have hpar := lm_dpar s hs
  obtain ⟨m', n', ⟨en, g1, g2⟩, k1⟩ := lm_lp (sc := sc) (d := d + 6) (b := 256) (hs := lm_m99.2.2.2.2.1) (code := lm_reg lm_m99.2.2.2.2.2) (x := x) (fr := fun c => (655, [(0, .ref 203), (2, .int (Int32.ofNat b)), (3, .int (Int32.ofNat (lm_hs h (256 * i + c)).1)), (4, .int (lm_bz (G c))), (5, .int (Int32.ofNat i)), (6, .int (Int32.ofNat c))], [])) (I := fun c m' n' => n' = n ∧ (∀ r, r ≠ 319 + i → m' r = m r) ∧ (∀ c', c' < c → lm_b1 (m' (319 + i) c') = lm_z (h (256 * i + c')))) (fun c hc m1 n1 ⟨en, g1, g2⟩ => by
    have hr := hRR c hc
    have hd := hD c hc
    have eG := hG c hc
    have eR : m1 (270 + (30 + i)) c = Int32.ofInt (Rr i c) := by rw [g1 _ (by omega)]; exact hr.1
    have eD : m1 317 c = Int32.ofInt (D i c) := by rw [g1 317 (by omega)]; exact hd.1
    have h46' : m1 203 46 = Int32.ofNat (lm_dg2 s) := by rw [g1 203 (by omega)]; exact h46
    have br : 0 ≤ (Rr i c + D i c) % 8380417 ∧ (Rr i c + D i c) % 8380417 < 8380417 := ⟨Int.emod_nonneg _ (by decide), Int.emod_lt_of_pos _ (by decide)⟩
    have b1 := lm_hi_hb hs br
    have b2 := lm_hi_hb hs hr.2
    have hp2 : ((2 ^ lm_hb s : Nat) : Int) ≤ 64 := by
      have : 2 ^ lm_hb s ≤ 2 ^ 6 := Nat.pow_le_pow_right (by decide) (by omega)
      omega
    have ev : lm_rem ((Int32.ofInt (Rr i c) + Int32.ofInt (D i c)) + Int32.ofInt 8380417) (Int32.ofInt 8380417) = Int32.ofInt ((Rr i c + D i c) % 8380417) := by
      rw [lm_iA, lm_iA, lm_iR (by omega) (by omega) (by decide) (by decide), Int.tmod_eq_emod_of_nonneg (by omega), Int.add_emod_right]
    have uh1 := lm_u103 (sc := sc) (d := d + 5) (m := m1) (n := n1) (x := x) (r := (Rr i c + D i c) % 8380417) hs h46' br
    have uh2 := lm_u103 (sc := sc) (d := d + 5) (m := m1) (n := n1) (x := x) (r := Rr i c) hs h46' hr.2
    have eh := lm_hf_at (g := (lm_dg2 s : Nat)) (Rr := Rr) (D := D) (i := i) hc
    rw [← hh] at eh
    have hsl := lm_hs_le (h := h) (256 * i + c)
    generalize eM : lm_u m1 (319 + i) c (lm_z (h (256 * i + c))) = M
    have rM : ∀ r, r ≠ 319 + i → M r = m1 r := fun r hr => by rw [← eM, lm_u_row hr]
    have zb1 : ∀ b : Bool, lm_b1 (lm_z b) = lm_z b := fun b => by cases b <;> decide
    refine ⟨M, n1, ⟨en, fun r hr => by rw [rM r hr, g1 r hr], fun c' hc' => ?_⟩, fun R KK => ?_⟩
    · by_cases c0 : c' = c
      · subst c0; rw [← eM, lm_u_eq]; exact zb1 _
      · rw [← eM, lm_u_ne (fun q => c0 q.2)]; exact g2 c' (by omega)
    · clear g2 hRR hD hG
      rw [eG] at KK
      have e776 : lm_rn sc (d + 6) lm_m99.2.2.2.2.1 (lm_reg lm_m99.2.2.2.2.2) (776, [(0, .ref 203), (2, .int (Int32.ofNat b)), (3, .int (Int32.ofNat (lm_hs h (256 * i + (c + 1))).1)), (4, .int (lm_bz (G c ∧ (-((lm_dg2 s : Nat) : Int) < D i c ∧ D i c < (lm_dg2 s : Nat))))), (5, .int (Int32.ofNat i)), (6, .int (Int32.ofNat c))], []) (lm_w M n1 x) = some R := by
        refine lm_e99_776 ?_
        unfold lm_q99_776
        rw [lm_K1, lm_oo]
        exact KK
      have e759 : ∀ w, w = lm_z (h (256 * i + c)) → lm_rn sc (d + 6) lm_m99.2.2.2.2.1 (lm_reg lm_m99.2.2.2.2.2) (759, [(0, .ref 203), (2, .int (Int32.ofNat b)), (3, .int (Int32.ofNat (lm_hs h (256 * i + c)).1)), (4, .int (lm_bz (G c ∧ (-((lm_dg2 s : Nat) : Int) < D i c ∧ D i c < (lm_dg2 s : Nat))))), (5, .int (Int32.ofNat i)), (6, .int (Int32.ofNat c))], [.int w, .int (Int32.ofNat c), .ref (319 + i)]) (lm_w m1 n1 x) = some R := by
        intro w hw
        subst hw
        refine lm_e99_759 ?_
        unfold lm_q99_759
        refine lm_wZ aH hc ?_
        rw [eM]
        repeat (first
    | ((with_reducible apply lm_sI); exact rfl)
    | ((with_reducible apply lm_sR); exact rfl)
    | ((with_reducible apply lm_sS); exact rfl; exact rfl)
    | ((with_reducible apply lm_sL); exact rfl)
    | ((with_reducible apply lm_sP); exact rfl; exact rfl)
    | ((with_reducible apply lm_sPL); exact rfl; exact rfl)
    | ((with_reducible apply lm_sAA); exact rfl; exact rfl)
    | ((with_reducible apply lm_sA); (first | exact rfl | assumption); omega)
    | ((with_reducible apply lm_sJ); (first | exact rfl | assumption); omega)
    | ((with_reducible apply lm_sB); (first | exact rfl | assumption); omega)
    | ((with_reducible apply lm_wA); (first | exact rfl | assumption); omega)
    | ((with_reducible apply lm_wJ); (first | exact rfl | assumption); omega)
    | ((with_reducible apply lm_wB); (first | exact rfl | assumption); omega)
    | ((with_reducible apply lm_sAl); (first | exact rfl | assumption); omega)
    | ((with_reducible apply lm_iW); decide))
        refine lm_sAA rfl (lm_roH i hi) ?_
        refine lm_sZ aH hc ?_
        rw [← eM, lm_u_eq, zb1, eM]
        cases hb : h (256 * i + c) with
        | true =>
          rw [← Nat.add_assoc, lm_hs_y hb] at e776
          refine lm_iF (show ¬ (1 : Int32) = 0 by decide) ?_
          rw [lm_K1, lm_oo]
          exact e776
        | false =>
          rw [← Nat.add_assoc, lm_hs_n hb] at e776
          exact lm_iT (show (0 : Int32) = 0 by decide) e776
      have e697 : ∀ w, w = lm_bz (G c ∧ (-((lm_dg2 s : Nat) : Int) < D i c ∧ D i c < (lm_dg2 s : Nat))) → lm_rn sc (d + 6) lm_m99.2.2.2.2.1 (lm_reg lm_m99.2.2.2.2.2) (697, [(0, .ref 203), (2, .int (Int32.ofNat b)), (3, .int (Int32.ofNat (lm_hs h (256 * i + c)).1)), (4, .int w), (5, .int (Int32.ofNat i)), (6, .int (Int32.ofNat c)), (7, .int (Int32.ofInt (D i c)))], []) (lm_w m1 n1 x) = some R := by
        intro w hw
        subst hw
        refine lm_e99_697 ?_
        unfold lm_q99_697
        rw [show Int32.ofInt 30 = Int32.ofNat 30 from rfl, lm_oo]
        repeat (first
    | ((with_reducible apply lm_sI); exact rfl)
    | ((with_reducible apply lm_sR); exact rfl)
    | ((with_reducible apply lm_sS); exact rfl; exact rfl)
    | ((with_reducible apply lm_sL); exact rfl)
    | ((with_reducible apply lm_sP); exact rfl; exact rfl)
    | ((with_reducible apply lm_sPL); exact rfl; exact rfl)
    | ((with_reducible apply lm_sAA); exact rfl; exact rfl)
    | ((with_reducible apply lm_sA); (first | exact rfl | assumption); omega)
    | ((with_reducible apply lm_sJ); (first | exact rfl | assumption); omega)
    | ((with_reducible apply lm_sB); (first | exact rfl | assumption); omega)
    | ((with_reducible apply lm_wA); (first | exact rfl | assumption); omega)
    | ((with_reducible apply lm_wJ); (first | exact rfl | assumption); omega)
    | ((with_reducible apply lm_wB); (first | exact rfl | assumption); omega)
    | ((with_reducible apply lm_sAl); (first | exact rfl | assumption); omega)
    | ((with_reducible apply lm_iW); decide))
        refine lm_sAA rfl (lm_roH i hi) ?_
        repeat (first
    | ((with_reducible apply lm_sI); exact rfl)
    | ((with_reducible apply lm_sR); exact rfl)
    | ((with_reducible apply lm_sS); exact rfl; exact rfl)
    | ((with_reducible apply lm_sL); exact rfl)
    | ((with_reducible apply lm_sP); exact rfl; exact rfl)
    | ((with_reducible apply lm_sPL); exact rfl; exact rfl)
    | ((with_reducible apply lm_sAA); exact rfl; exact rfl)
    | ((with_reducible apply lm_sA); (first | exact rfl | assumption); omega)
    | ((with_reducible apply lm_sJ); (first | exact rfl | assumption); omega)
    | ((with_reducible apply lm_sB); (first | exact rfl | assumption); omega)
    | ((with_reducible apply lm_wA); (first | exact rfl | assumption); omega)
    | ((with_reducible apply lm_wJ); (first | exact rfl | assumption); omega)
    | ((with_reducible apply lm_wB); (first | exact rfl | assumption); omega)
    | ((with_reducible apply lm_sAl); (first | exact rfl | assumption); omega)
    | ((with_reducible apply lm_iW); decide))
        refine lm_sAA rfl (lm_roY (30 + i) (by omega)) ?_
        repeat (first
    | ((with_reducible apply lm_sI); exact rfl)
    | ((with_reducible apply lm_sR); exact rfl)
    | ((with_reducible apply lm_sS); exact rfl; exact rfl)
    | ((with_reducible apply lm_sL); exact rfl)
    | ((with_reducible apply lm_sP); exact rfl; exact rfl)
    | ((with_reducible apply lm_sPL); exact rfl; exact rfl)
    | ((with_reducible apply lm_sAA); exact rfl; exact rfl)
    | ((with_reducible apply lm_sA); (first | exact rfl | assumption); omega)
    | ((with_reducible apply lm_sJ); (first | exact rfl | assumption); omega)
    | ((with_reducible apply lm_sB); (first | exact rfl | assumption); omega)
    | ((with_reducible apply lm_wA); (first | exact rfl | assumption); omega)
    | ((with_reducible apply lm_wJ); (first | exact rfl | assumption); omega)
    | ((with_reducible apply lm_wB); (first | exact rfl | assumption); omega)
    | ((with_reducible apply lm_sAl); (first | exact rfl | assumption); omega)
    | ((with_reducible apply lm_iW); decide))
        rw [eR, ev]
        refine lm_cI uh1 ?_
        repeat (first
    | ((with_reducible apply lm_sI); exact rfl)
    | ((with_reducible apply lm_sR); exact rfl)
    | ((with_reducible apply lm_sS); exact rfl; exact rfl)
    | ((with_reducible apply lm_sL); exact rfl)
    | ((with_reducible apply lm_sP); exact rfl; exact rfl)
    | ((with_reducible apply lm_sPL); exact rfl; exact rfl)
    | ((with_reducible apply lm_sAA); exact rfl; exact rfl)
    | ((with_reducible apply lm_sA); (first | exact rfl | assumption); omega)
    | ((with_reducible apply lm_sJ); (first | exact rfl | assumption); omega)
    | ((with_reducible apply lm_sB); (first | exact rfl | assumption); omega)
    | ((with_reducible apply lm_wA); (first | exact rfl | assumption); omega)
    | ((with_reducible apply lm_wJ); (first | exact rfl | assumption); omega)
    | ((with_reducible apply lm_wB); (first | exact rfl | assumption); omega)
    | ((with_reducible apply lm_sAl); (first | exact rfl | assumption); omega)
    | ((with_reducible apply lm_iW); decide))
        refine lm_sAA rfl (lm_roY (30 + i) (by omega)) ?_
        repeat (first
    | ((with_reducible apply lm_sI); exact rfl)
    | ((with_reducible apply lm_sR); exact rfl)
    | ((with_reducible apply lm_sS); exact rfl; exact rfl)
    | ((with_reducible apply lm_sL); exact rfl)
    | ((with_reducible apply lm_sP); exact rfl; exact rfl)
    | ((with_reducible apply lm_sPL); exact rfl; exact rfl)
    | ((with_reducible apply lm_sAA); exact rfl; exact rfl)
    | ((with_reducible apply lm_sA); (first | exact rfl | assumption); omega)
    | ((with_reducible apply lm_sJ); (first | exact rfl | assumption); omega)
    | ((with_reducible apply lm_sB); (first | exact rfl | assumption); omega)
    | ((with_reducible apply lm_wA); (first | exact rfl | assumption); omega)
    | ((with_reducible apply lm_wJ); (first | exact rfl | assumption); omega)
    | ((with_reducible apply lm_wB); (first | exact rfl | assumption); omega)
    | ((with_reducible apply lm_sAl); (first | exact rfl | assumption); omega)
    | ((with_reducible apply lm_iW); decide))
        rw [eR]
        refine lm_cI uh2 ?_
        by_cases ce : lm_hi (lm_dg2 s) ((Rr i c + D i c) % 8380417) = lm_hi (lm_dg2 s) (Rr i c)
        · refine lm_zeqT ce ?_
          exact e759 _ (by rw [eh, decide_eq_false (fun g => g ce)]; rfl)
        · refine lm_zeqF (by omega) (by omega) ce ?_
          exact e759 _ (by rw [eh, decide_eq_true ce]; rfl)
      have e694 : ¬ (-((lm_dg2 s : Nat) : Int) < D i c ∧ D i c < (lm_dg2 s : Nat)) → lm_rn sc (d + 6) lm_m99.2.2.2.2.1 (lm_reg lm_m99.2.2.2.2.2) (694, [(0, .ref 203), (2, .int (Int32.ofNat b)), (3, .int (Int32.ofNat (lm_hs h (256 * i + c)).1)), (5, .int (Int32.ofNat i)), (6, .int (Int32.ofNat c)), (7, .int (Int32.ofInt (D i c)))], []) (lm_w m1 n1 x) = some R := by
        intro cz
        refine lm_e99_694 ?_
        unfold lm_q99_694
        exact e697 _ (by rw [lm_bz_f (fun q => cz q.2)]; rfl)
      refine lm_e99_655 ?_
      unfold lm_q99_655
      rw [lm_K256]
      refine lm_geF (by omega) (by omega) (by omega) ?_
      rw [show Int32.ofInt 47 = Int32.ofNat 47 from rfl]
      repeat (first
    | ((with_reducible apply lm_sI); exact rfl)
    | ((with_reducible apply lm_sR); exact rfl)
    | ((with_reducible apply lm_sS); exact rfl; exact rfl)
    | ((with_reducible apply lm_sL); exact rfl)
    | ((with_reducible apply lm_sP); exact rfl; exact rfl)
    | ((with_reducible apply lm_sPL); exact rfl; exact rfl)
    | ((with_reducible apply lm_sAA); exact rfl; exact rfl)
    | ((with_reducible apply lm_sA); (first | exact rfl | assumption); omega)
    | ((with_reducible apply lm_sJ); (first | exact rfl | assumption); omega)
    | ((with_reducible apply lm_sB); (first | exact rfl | assumption); omega)
    | ((with_reducible apply lm_wA); (first | exact rfl | assumption); omega)
    | ((with_reducible apply lm_wJ); (first | exact rfl | assumption); omega)
    | ((with_reducible apply lm_wB); (first | exact rfl | assumption); omega)
    | ((with_reducible apply lm_sAl); (first | exact rfl | assumption); omega)
    | ((with_reducible apply lm_iW); decide))
      simp only [Nat.reduceDiv, Nat.reduceMod]
      rw [eD, h46', lm_oN (lm_dg2 s)]
      by_cases cg : (lm_dg2 s : Int) ≤ D i c
      · refine lm_zgeT (by omega) (by omega) cg ?_
        exact e694 (by omega)
      · refine lm_zgeF (by omega) (by omega) cg ?_
        repeat (first
    | ((with_reducible apply lm_sI); exact rfl)
    | ((with_reducible apply lm_sR); exact rfl)
    | ((with_reducible apply lm_sS); exact rfl; exact rfl)
    | ((with_reducible apply lm_sL); exact rfl)
    | ((with_reducible apply lm_sP); exact rfl; exact rfl)
    | ((with_reducible apply lm_sPL); exact rfl; exact rfl)
    | ((with_reducible apply lm_sAA); exact rfl; exact rfl)
    | ((with_reducible apply lm_sA); (first | exact rfl | assumption); omega)
    | ((with_reducible apply lm_sJ); (first | exact rfl | assumption); omega)
    | ((with_reducible apply lm_sB); (first | exact rfl | assumption); omega)
    | ((with_reducible apply lm_wA); (first | exact rfl | assumption); omega)
    | ((with_reducible apply lm_wJ); (first | exact rfl | assumption); omega)
    | ((with_reducible apply lm_wB); (first | exact rfl | assumption); omega)
    | ((with_reducible apply lm_sAl); (first | exact rfl | assumption); omega)
    | ((with_reducible apply lm_iW); decide))
        simp only [Nat.reduceDiv, Nat.reduceMod]
        rw [h46', lm_oN (lm_dg2 s), lm_iN]
        by_cases cl : -(lm_dg2 s : Int) < D i c
        · refine lm_zgtT (by omega) (by omega) cl ?_
          exact e697 _ (by rw [lm_bz_and (by omega)])
        · refine lm_zgtF (by omega) (by omega) cl ?_
          exact e694 (by omega)) 256 0 (by omega) m n ⟨rfl, fun _ _ => rfl, fun c' hc' => absurd hc' (by omega)⟩
  subst en
  exact ⟨m', g1, g2, k1⟩
end LMSA
