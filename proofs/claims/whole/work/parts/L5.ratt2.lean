/-! ===== an attempt of the reference: up to the ball ===== -/
section LMRY
variable {sc : lm_H} {C : lm_CX} {d s j : Nat} {m m0 : lm_MI} {n n0 : lm_ML} {x : lm_H × Nat × Nat} {K U V : Nat → Int32}
/-- the highs of a row -/
theorem lm_l99d {i : Nat} {W : Nat → Int} (hs : s ≤ 2) (hi : i < 8) (hE : lm_RE s m) (hW : ∀ c, c < 256 → m (270 + (30 + i)) c = Int32.ofInt (W c) ∧ 0 ≤ W c ∧ W c < 8380417) : ∃ m', ((∀ r, r ≠ 270 + (38 + i) → m' r = m r) ∧ ∀ c, c < 256 → m' (270 + (38 + i)) c = Int32.ofInt (lm_hi (lm_dg2 s) (W c))) ∧ ∀ R, lm_rn sc (d + 6) lm_m99.2.2.2.2.1 (lm_reg lm_m99.2.2.2.2.2) (259, [(0, .ref 203), (2, .int (Int32.ofNat i)), (3, .int (Int32.ofNat 256))], []) (lm_w m' n x) = some R → lm_rn sc (d + 6) lm_m99.2.2.2.2.1 (lm_reg lm_m99.2.2.2.2.2) (259, [(0, .ref 203), (2, .int (Int32.ofNat i)), (3, .int (Int32.ofNat 0))], []) (lm_w m n x) = some R := by
  have aY := lm_arY (30 + i) (by omega)
  have aZ := lm_arY (38 + i) (by omega)
  obtain ⟨m', n', ⟨en, g1, g2⟩, k1⟩ := lm_lp (sc := sc) (d := d + 6) (b := 256) (hs := lm_m99.2.2.2.2.1) (code := lm_reg lm_m99.2.2.2.2.2) (x := x) (fr := fun c => (259, [(0, .ref 203), (2, .int (Int32.ofNat i)), (3, .int (Int32.ofNat c))], [])) (I := fun c m' n' => n' = n ∧ (∀ r, r ≠ 270 + (38 + i) → m' r = m r) ∧ ∀ c', c' < c → m' (270 + (38 + i)) c' = Int32.ofInt (lm_hi (lm_dg2 s) (W c'))) (fun c hc m1 n1 ⟨en, g1, g2⟩ => by
    have hw := hW c hc
    have u := lm_u103 (sc := sc) (d := d + 5) (m := m1) (n := n1) (x := x) (r := W c) hs (by rw [g1 203 (by omega)]; exact hE.2.2.1) hw.2
    refine ⟨lm_u m1 (270 + (38 + i)) c (Int32.ofInt (lm_hi (lm_dg2 s) (W c))), n1, ⟨en, fun r hr => (lm_u_row hr).trans (g1 r hr), fun c' hc' => ?_⟩, fun R KK => lm_e99_259 ?_⟩
    · by_cases c0 : c' = c
      · subst c0; rw [lm_u_eq]
      · rw [lm_u_ne (fun g => c0 g.2)]; exact g2 c' (by omega)
    · clear g2 hW
      unfold lm_q99_259
      rw [lm_K256]
      refine lm_geF (by omega) (by omega) (by omega) ?_
      rw [show Int32.ofInt 38 = Int32.ofNat 38 from rfl, show Int32.ofInt 30 = Int32.ofNat 30 from rfl, lm_oo, lm_oo]
      repeat (first
    | ((with_reducible apply lm_sI); exact rfl)
    | ((with_reducible apply lm_sR); exact rfl)
    | ((with_reducible apply lm_sS); exact rfl; exact rfl)
    | ((with_reducible apply lm_sL); exact rfl)
    | ((with_reducible apply lm_sP); exact rfl; exact rfl)
    | ((with_reducible apply lm_sPL); exact rfl; exact rfl)
    | ((with_reducible apply lm_sAA); exact rfl; exact rfl)
    | ((with_reducible apply lm_sA); (first | exact rfl | assumption); omega)
    | ((with_reducible apply lm_sJ); (first | exact rfl | assumption); omega)
    | ((with_reducible apply lm_sB); (first | exact rfl | assumption); omega)
    | ((with_reducible apply lm_wA); (first | exact rfl | assumption); omega)
    | ((with_reducible apply lm_wJ); (first | exact rfl | assumption); omega)
    | ((with_reducible apply lm_wB); (first | exact rfl | assumption); omega)
    | ((with_reducible apply lm_sAl); (first | exact rfl | assumption); omega)
    | ((with_reducible apply lm_iW); decide))
      refine lm_sAA rfl (lm_roY (38 + i) (by omega)) ?_
      repeat (first
    | ((with_reducible apply lm_sI); exact rfl)
    | ((with_reducible apply lm_sR); exact rfl)
    | ((with_reducible apply lm_sS); exact rfl; exact rfl)
    | ((with_reducible apply lm_sL); exact rfl)
    | ((with_reducible apply lm_sP); exact rfl; exact rfl)
    | ((with_reducible apply lm_sPL); exact rfl; exact rfl)
    | ((with_reducible apply lm_sAA); exact rfl; exact rfl)
    | ((with_reducible apply lm_sA); (first | exact rfl | assumption); omega)
    | ((with_reducible apply lm_sJ); (first | exact rfl | assumption); omega)
    | ((with_reducible apply lm_sB); (first | exact rfl | assumption); omega)
    | ((with_reducible apply lm_wA); (first | exact rfl | assumption); omega)
    | ((with_reducible apply lm_wJ); (first | exact rfl | assumption); omega)
    | ((with_reducible apply lm_wB); (first | exact rfl | assumption); omega)
    | ((with_reducible apply lm_sAl); (first | exact rfl | assumption); omega)
    | ((with_reducible apply lm_iW); decide))
      refine lm_sAA rfl (lm_roY (30 + i) (by omega)) ?_
      repeat (first
    | ((with_reducible apply lm_sI); exact rfl)
    | ((with_reducible apply lm_sR); exact rfl)
    | ((with_reducible apply lm_sS); exact rfl; exact rfl)
    | ((with_reducible apply lm_sL); exact rfl)
    | ((with_reducible apply lm_sP); exact rfl; exact rfl)
    | ((with_reducible apply lm_sPL); exact rfl; exact rfl)
    | ((with_reducible apply lm_sAA); exact rfl; exact rfl)
    | ((with_reducible apply lm_sA); (first | exact rfl | assumption); omega)
    | ((with_reducible apply lm_sJ); (first | exact rfl | assumption); omega)
    | ((with_reducible apply lm_sB); (first | exact rfl | assumption); omega)
    | ((with_reducible apply lm_wA); (first | exact rfl | assumption); omega)
    | ((with_reducible apply lm_wJ); (first | exact rfl | assumption); omega)
    | ((with_reducible apply lm_wB); (first | exact rfl | assumption); omega)
    | ((with_reducible apply lm_sAl); (first | exact rfl | assumption); omega)
    | ((with_reducible apply lm_iW); decide))
      rw [g1 _ (by omega), hw.1]
      refine lm_cI u ?_
      repeat (first
    | ((with_reducible apply lm_sI); exact rfl)
    | ((with_reducible apply lm_sR); exact rfl)
    | ((with_reducible apply lm_sS); exact rfl; exact rfl)
    | ((with_reducible apply lm_sL); exact rfl)
    | ((with_reducible apply lm_sP); exact rfl; exact rfl)
    | ((with_reducible apply lm_sPL); exact rfl; exact rfl)
    | ((with_reducible apply lm_sAA); exact rfl; exact rfl)
    | ((with_reducible apply lm_sA); (first | exact rfl | assumption); omega)
    | ((with_reducible apply lm_sJ); (first | exact rfl | assumption); omega)
    | ((with_reducible apply lm_sB); (first | exact rfl | assumption); omega)
    | ((with_reducible apply lm_wA); (first | exact rfl | assumption); omega)
    | ((with_reducible apply lm_wJ); (first | exact rfl | assumption); omega)
    | ((with_reducible apply lm_wB); (first | exact rfl | assumption); omega)
    | ((with_reducible apply lm_sAl); (first | exact rfl | assumption); omega)
    | ((with_reducible apply lm_iW); decide))
      rw [lm_K1, lm_oo]
      exact KK) 256 0 (by omega) m n ⟨rfl, fun _ _ => rfl, fun c' hc' => absurd hc' (by omega)⟩
  subst en
  exact ⟨m', ⟨g1, g2⟩, k1⟩
def lm_I99 (C : lm_CX) (K U : Nat → Int32) (s j : Nat) (m0 : lm_MI) (n0 : lm_ML) (i : Nat) (m : lm_MI) (n : lm_ML) : Prop := (∀ r, r ≠ 203 → r ≠ 227 → (r < 300 ∨ 317 < r) → m r = m0 r) ∧ lm_fB m0 n0 m n ∧ (∀ i', i' < i → ∀ t, t < lm_dl s → (lm_xA C K 0 i' t).1 = 256) ∧ ∀ i', i' < i → ∀ c, c < 256 → m (270 + (30 + i')) c = Int32.ofInt (ln_aW C K U s j i' c) ∧ m (270 + (38 + i')) c = Int32.ofInt (lm_hi (lm_dg2 s) (ln_aW C K U s j i' c))
def lm_E99 (C : lm_CX) (K : Nat → Int32) (s : Nat) (m0 : lm_MI) (n0 : lm_ML) (x : lm_H × Nat × Nat) (R : Except Nat lm_R × lm_S) : Prop := ∃ m n, R = (.ok (some (.int (Int32.ofInt (-1)))), lm_w m n x) ∧ (∀ r, r ≠ 203 → r ≠ 227 → (r < 300 ∨ 317 < r) → m r = m0 r) ∧ lm_fB m0 n0 m n ∧ ¬ ln_sA C K s
theorem lm_l99e (hs : s ≤ 2) (hR : lm_RD C s m n) (hE : lm_RE s m) (hK : ∀ u, u < 32 → lm_b8 (m 208 u) = lm_b8 (K u)) (hY : ∀ t, t < lm_dl s → ∀ c, c < 256 → m (270 + (23 + t)) c = Int32.ofInt (lm_aY C U s j t c)) : (∃ m' n', lm_I99 C K U s j m n (lm_dk s) m' n' ∧ ∀ R, lm_rn sc (d + 6) lm_m99.2.2.2.2.1 (lm_reg lm_m99.2.2.2.2.2) (99, [(0, .ref 203), (2, .int (Int32.ofNat (lm_dk s)))], []) (lm_w m' n' x) = some R → lm_rn sc (d + 6) lm_m99.2.2.2.2.1 (lm_reg lm_m99.2.2.2.2.2) (99, [(0, .ref 203), (2, .int (Int32.ofNat 0))], []) (lm_w m n x) = some R) ∨ ∃ R, lm_E99 C K s m n x R ∧ lm_rn sc (d + 6) lm_m99.2.2.2.2.1 (lm_reg lm_m99.2.2.2.2.2) (99, [(0, .ref 203), (2, .int (Int32.ofNat 0))], []) (lm_w m n x) = some R := by
  have hkl := lm_dkl hs
  refine lm_lpe (sc := sc) (d := d + 6) (b := lm_dk s) (hs := lm_m99.2.2.2.2.1) (code := lm_reg lm_m99.2.2.2.2.2) (x := x) (fr := fun i => (99, [(0, .ref 203), (2, .int (Int32.ofNat i))], [])) (I := fun i m' n' => lm_I99 C K U s j m n i m' n') (E := lm_E99 C K s m n x) (fun i hi m1 n1 ⟨g1, g2, g3, g4⟩ => ?_) (lm_dk s) 0 (by omega) m n ⟨fun _ _ _ _ => rfl, .of rfl, fun i' hi' => absurd hi' (by omega), fun i' hi' => absurd hi' (by omega)⟩
  have R1 : lm_RD C s m1 n1 := hR.keep g2 (g1 221 (by decide) (by decide) (by decide)) (g1 268 (by decide) (by decide) (by decide))
  have E1 : lm_RE s m1 := hE.of fun j a b => g2.1 j (by omega) (by omega) (by omega) (by omega)
  have aZ := lm_arY (30 + i) (by omega)
  obtain ⟨m2, c2, p2⟩ := lm_u81 (sc := sc) (d := d + 5) (m := m1) (n := n1) (x := x) (p := 270 + (30 + i)) aZ
  have B2 : lm_fB m n m2 n1 := g2.tr (.of (p2.1 203 (by omega)))
  have R2 : lm_RD C s m2 n1 := hR.keep B2 (by rw [p2.1 221 (by omega), g1 221 (by decide) (by decide) (by decide)]) (by rw [p2.1 268 (by omega), g1 268 (by decide) (by decide) (by decide)])
  have head : ∀ R, lm_rn sc (d + 6) lm_m99.2.2.2.2.1 (lm_reg lm_m99.2.2.2.2.2) (121, [(0, .ref 203), (2, .int (Int32.ofNat i)), (3, .int (Int32.ofNat 0))], []) (lm_w m2 n1 x) = some R → lm_rn sc (d + 6) lm_m99.2.2.2.2.1 (lm_reg lm_m99.2.2.2.2.2) (99, [(0, .ref 203), (2, .int (Int32.ofNat i))], []) (lm_w m1 n1 x) = some R := by
    intro R KK
    clear g3 g4
    refine lm_e99_99 ?_
    unfold lm_q99_99
    repeat (first
    | ((with_reducible apply lm_sI); exact rfl)
    | ((with_reducible apply lm_sR); exact rfl)
    | ((with_reducible apply lm_sS); exact rfl; exact rfl)
    | ((with_reducible apply lm_sL); exact rfl)
    | ((with_reducible apply lm_sP); exact rfl; exact rfl)
    | ((with_reducible apply lm_sPL); exact rfl; exact rfl)
    | ((with_reducible apply lm_sAA); exact rfl; exact rfl)
    | ((with_reducible apply lm_sA); (first | exact rfl | assumption); omega)
    | ((with_reducible apply lm_sJ); (first | exact rfl | assumption); omega)
    | ((with_reducible apply lm_sB); (first | exact rfl | assumption); omega)
    | ((with_reducible apply lm_wA); (first | exact rfl | assumption); omega)
    | ((with_reducible apply lm_wJ); (first | exact rfl | assumption); omega)
    | ((with_reducible apply lm_wB); (first | exact rfl | assumption); omega)
    | ((with_reducible apply lm_sAl); (first | exact rfl | assumption); omega)
    | ((with_reducible apply lm_iW); decide))
    simp only [Nat.reduceDiv, Nat.reduceMod]
    rw [R1.2.1]
    refine lm_geF (by omega) (by omega) (by omega) ?_
    rw [show Int32.ofInt 30 = Int32.ofNat 30 from rfl, lm_oo, lm_K0]
    repeat (first
    | ((with_reducible apply lm_sI); exact rfl)
    | ((with_reducible apply lm_sR); exact rfl)
    | ((with_reducible apply lm_sS); exact rfl; exact rfl)
    | ((with_reducible apply lm_sL); exact rfl)
    | ((with_reducible apply lm_sP); exact rfl; exact rfl)
    | ((with_reducible apply lm_sPL); exact rfl; exact rfl)
    | ((with_reducible apply lm_sAA); exact rfl; exact rfl)
    | ((with_reducible apply lm_sA); (first | exact rfl | assumption); omega)
    | ((with_reducible apply lm_sJ); (first | exact rfl | assumption); omega)
    | ((with_reducible apply lm_sB); (first | exact rfl | assumption); omega)
    | ((with_reducible apply lm_wA); (first | exact rfl | assumption); omega)
    | ((with_reducible apply lm_wJ); (first | exact rfl | assumption); omega)
    | ((with_reducible apply lm_wB); (first | exact rfl | assumption); omega)
    | ((with_reducible apply lm_sAl); (first | exact rfl | assumption); omega)
    | ((with_reducible apply lm_iW); decide))
    refine lm_sAA rfl (lm_roY (30 + i) (by omega)) ?_
    refine lm_cV c2 ?_
    exact KK
  rcases lm_l99c (sc := sc) (C := C) (K := K) (d := d) (m := m2) (n := n1) (x := x) (s := s) (i := i) (Y := lm_aY C U s j) hs hi R2 (fun u hu => by rw [p2.1 208 (by omega), g1 208 (by decide) (by decide) (by decide)]; exact hK u hu) (fun t ht c hc => ⟨by rw [p2.1 _ (by omega), g1 _ (by omega) (by omega) (by omega)]; exact hY t ht c hc, by have := lm_aY_b (C := C) (U := U) (j := j) (t := t) (c := c) hs; generalize lm_aY C U s j t c = z at this; omega⟩) (fun c hc => p2.2 c hc) with ⟨m3, n3, ⟨a1, a2, a3, a4, a5⟩, k3⟩ | ⟨R, ⟨m3, n3, eR, a1, a2, t, ht, a4⟩, k3⟩
  · have B3 := B2.tr a2
    have R3 : lm_RD C s m3 n3 := R2.keep a2 (a1 221 (by decide) (by decide) (by omega) (by decide) (by decide)) (a1 268 (by decide) (by decide) (by omega) (by decide) (by decide))
    obtain ⟨m4, n4, c4, p4, q4⟩ := lm_u93 (sc := sc) (d := d + 4) (m := m3) (n := n3) (x := x) (p := 270 + (30 + i)) (G := lm_as (fun t c => ln_pt (fun c => lm_aY C U s j t c % 8380417) c % 8380417) (fun t c => lm_xAm C K i t c) (lm_dl s)) aZ R3.2.2.2.2 (lm_as_rg (l := lm_dl s) (fun t ht c hc => Int.emod_nonneg _ (by decide)) (fun t ht c hc => by rw [lm_xAm_e]; exact Int.natCast_nonneg _) (lm_dl s) (by omega)) a5
    have eW : ∀ c, c < 256 → m4 (270 + (30 + i)) c = Int32.ofInt (ln_aW C K U s j i c) := fun c hc => by
      rw [p4.2 c hc]
      unfold ln_aW
      exact congrArg Int32.ofInt (lm_yT_as2 (A := lm_xAm C K) (V := lm_aY C U s j) (fun t ht c hc => ln_cg.em.tr (lm_pt_cg (fun c _ => ln_cg.em) c)))
    have B4 : lm_fB m n m4 n4 := B3.tr ⟨fun j _ _ _ _ => by rw [p4.1 203 (by omega)], fun q _ _ _ _ _ g => q4 q g⟩
    have E4 : lm_RE s m4 := hE.of fun j a b => B4.1 j (by omega) (by omega) (by omega) (by omega)
    obtain ⟨m5, ⟨b1, b2⟩, k5⟩ := lm_l99d (sc := sc) (d := d) (m := m4) (n := n4) (x := x) (s := s) (i := i) (W := fun c => ln_aW C K U s j i c) hs (by omega) E4 (fun c hc => ⟨eW c hc, lm_aW_b⟩)
    have fr : ∀ r, r ≠ 203 → r ≠ 227 → r ≠ 270 + (30 + i) → r ≠ 270 + (38 + i) → r ≠ 316 → r ≠ 317 → m5 r = m1 r := fun r q1 q2 q3 q4' q5 q6 => by rw [b1 r q4', p4.1 r q3, a1 r q1 q2 q3 q5 q6, p2.1 r q3]
    refine Or.inl ⟨m5, n4, ⟨fun r q1 q2 q3 => by rw [fr r q1 q2 (by omega) (by omega) (by omega) (by omega), g1 r q1 q2 q3], B4.tr (.of (b1 203 (by omega))), fun i' hi' t ht => ?_, fun i' hi' c hc => ?_⟩, fun R KK => head R (k3 R (lm_e99_121 ?_))⟩
    · by_cases c0 : i' = i
      · subst c0; exact a4 t ht
      · exact g3 i' (by omega) t ht
    · by_cases c0 : i' = i
      · subst c0
        exact ⟨by rw [b1 _ (by omega)]; exact eW c hc, b2 c hc⟩
      · rw [fr _ (by omega) (by omega) (by omega) (by omega) (by omega) (by omega), fr _ (by omega) (by omega) (by omega) (by omega) (by omega) (by omega)]
        exact g4 i' (by omega) c hc
    · clear g3 g4 a4 a5 eW b2 hY
      unfold lm_q99_121
      repeat (first
    | ((with_reducible apply lm_sI); exact rfl)
    | ((with_reducible apply lm_sR); exact rfl)
    | ((with_reducible apply lm_sS); exact rfl; exact rfl)
    | ((with_reducible apply lm_sL); exact rfl)
    | ((with_reducible apply lm_sP); exact rfl; exact rfl)
    | ((with_reducible apply lm_sPL); exact rfl; exact rfl)
    | ((with_reducible apply lm_sAA); exact rfl; exact rfl)
    | ((with_reducible apply lm_sA); (first | exact rfl | assumption); omega)
    | ((with_reducible apply lm_sJ); (first | exact rfl | assumption); omega)
    | ((with_reducible apply lm_sB); (first | exact rfl | assumption); omega)
    | ((with_reducible apply lm_wA); (first | exact rfl | assumption); omega)
    | ((with_reducible apply lm_wJ); (first | exact rfl | assumption); omega)
    | ((with_reducible apply lm_wB); (first | exact rfl | assumption); omega)
    | ((with_reducible apply lm_sAl); (first | exact rfl | assumption); omega)
    | ((with_reducible apply lm_iW); decide))
      simp only [Nat.reduceDiv, Nat.reduceMod]
      rw [R3.2.2.1]
      refine lm_geT (by omega) (by omega) (by omega) ?_
      rw [show Int32.ofInt 30 = Int32.ofNat 30 from rfl, lm_oo, lm_K0]
      repeat (first
    | ((with_reducible apply lm_sI); exact rfl)
    | ((with_reducible apply lm_sR); exact rfl)
    | ((with_reducible apply lm_sS); exact rfl; exact rfl)
    | ((with_reducible apply lm_sL); exact rfl)
    | ((with_reducible apply lm_sP); exact rfl; exact rfl)
    | ((with_reducible apply lm_sPL); exact rfl; exact rfl)
    | ((with_reducible apply lm_sAA); exact rfl; exact rfl)
    | ((with_reducible apply lm_sA); (first | exact rfl | assumption); omega)
    | ((with_reducible apply lm_sJ); (first | exact rfl | assumption); omega)
    | ((with_reducible apply lm_sB); (first | exact rfl | assumption); omega)
    | ((with_reducible apply lm_wA); (first | exact rfl | assumption); omega)
    | ((with_reducible apply lm_wJ); (first | exact rfl | assumption); omega)
    | ((with_reducible apply lm_wB); (first | exact rfl | assumption); omega)
    | ((with_reducible apply lm_sAl); (first | exact rfl | assumption); omega)
    | ((with_reducible apply lm_iW); decide))
      refine lm_sAA rfl (lm_roY (30 + i) (by omega)) ?_
      repeat (first
    | ((with_reducible apply lm_sI); exact rfl)
    | ((with_reducible apply lm_sR); exact rfl)
    | ((with_reducible apply lm_sS); exact rfl; exact rfl)
    | ((with_reducible apply lm_sL); exact rfl)
    | ((with_reducible apply lm_sP); exact rfl; exact rfl)
    | ((with_reducible apply lm_sPL); exact rfl; exact rfl)
    | ((with_reducible apply lm_sAA); exact rfl; exact rfl)
    | ((with_reducible apply lm_sA); (first | exact rfl | assumption); omega)
    | ((with_reducible apply lm_sJ); (first | exact rfl | assumption); omega)
    | ((with_reducible apply lm_sB); (first | exact rfl | assumption); omega)
    | ((with_reducible apply lm_wA); (first | exact rfl | assumption); omega)
    | ((with_reducible apply lm_wJ); (first | exact rfl | assumption); omega)
    | ((with_reducible apply lm_wB); (first | exact rfl | assumption); omega)
    | ((with_reducible apply lm_sAl); (first | exact rfl | assumption); omega)
    | ((with_reducible apply lm_iW); decide))
      refine lm_cV c4 ?_
      refine k5 R (lm_e99_259 ?_)
      unfold lm_q99_259
      rw [lm_K256]
      refine lm_geT (by omega) (by omega) (by omega) ?_
      rw [lm_K1, lm_oo]
      exact KK
  · rw [eR] at k3
    exact Or.inr ⟨_, ⟨m3, n3, rfl, fun r q1 q2 q3 => by rw [a1 r q1 q2 (by omega) (by omega) (by omega), p2.1 r (by omega), g1 r q1 q2 q3], B2.tr a2, fun g => a4 (g i t hi ht)⟩, head _ k3⟩
/-- what an attempt of the reference leaves alone -/
def lm_fR (m m' : lm_MI) : Prop := ∀ r, r ≠ 203 → r ≠ 227 → r ≠ 229 → (r < 293 ∨ 332 < r ∨ r = 330 ∨ r = 331) → m' r = m r
theorem lm_l99f (hs : s ≤ 2) (hR : lm_RD C s m n) (hE : lm_RE s m) (hK : ∀ u, u < 32 → lm_b8 (m 208 u) = lm_b8 (K u)) (hU : ∀ i, i < 64 → lm_b8 (m 331 i) = lm_b8 (U i)) (hV : ∀ i, i < 64 → lm_b8 (m 330 i) = lm_b8 (V i)) (hj : j + 7 ≤ 60000) : (ln_sA C K s ∧ (lm_aB C K U V s j).1 = 256 ∧ ∃ m' n', lm_fR m m' ∧ lm_fB m n m' n' ∧ (∀ t, t < lm_dl s → ∀ c, c < 256 → m' (270 + (23 + t)) c = Int32.ofInt (lm_aY C U s j t c)) ∧ (∀ i, i < lm_dk s → ∀ c, c < 256 → m' (270 + (30 + i)) c = Int32.ofInt (ln_aW C K U s j i c)) ∧ (∀ t, t < lm_dsz s → m' 332 t = lm_aC C K U V s j t) ∧ (∀ c, c < 256 → m' 316 c = Int32.ofInt ((lm_aB C K U V s j).2 c)) ∧ ∀ R, lm_rn sc (d + 6) lm_m99.2.2.2.2.1 (lm_reg lm_m99.2.2.2.2.2) (347, [(0, .ref 203), (2, .int (Int32.ofNat (lm_be s))), (3, .int (Int32.ofNat 0))], []) (lm_w m' n' x) = some R → lm_cal sc (d + 7) 99 [.ref 203, .int (Int32.ofNat j)] (lm_w m n x) = some R) ∨ ((¬ ln_sA C K s ∨ (lm_aB C K U V s j).1 ≠ 256) ∧ ∃ m' n', lm_cal sc (d + 7) 99 [.ref 203, .int (Int32.ofNat j)] (lm_w m n x) = some (.ok (some (.int (Int32.ofInt (-1)))), lm_w m' n' x) ∧ lm_fR m m' ∧ lm_fB m n m' n') := by
  have hkl := lm_dkl hs
  have hpar := lm_dpar s hs
  obtain ⟨m1, n1, ⟨a1, a2, a3⟩, k1⟩ := lm_l99a (sc := sc) (C := C) (U := U) (d := d) (m := m) (n := n) (x := x) (j := j) hs hR hE hU hj
  have R1 : lm_RD C s m1 n1 := hR.keep a2 (a1 221 (by decide) (by decide) (by decide) (by decide)) (a1 268 (by decide) (by decide) (by decide) (by decide))
  have E1 : lm_RE s m1 := hE.of fun j a b => a2.1 j (by omega) (by omega) (by omega) (by omega)
  have head : ∀ R, lm_rn sc (d + 6) lm_m99.2.2.2.2.1 (lm_reg lm_m99.2.2.2.2.2) (99, [(0, .ref 203), (2, .int (Int32.ofNat 0))], []) (lm_w m1 n1 x) = some R → lm_cal sc (d + 7) 99 [.ref 203, .int (Int32.ofNat j)] (lm_w m n x) = some R := by
    intro R KK
    clear a3
    refine lm_cal_of (Y := lm_m99) rfl rfl (lm_e99_0 ?_)
    unfold lm_q99_0
    rw [lm_K0]
    refine k1 R (lm_e99_2 ?_)
    unfold lm_q99_2
    repeat (first
    | ((with_reducible apply lm_sI); exact rfl)
    | ((with_reducible apply lm_sR); exact rfl)
    | ((with_reducible apply lm_sS); exact rfl; exact rfl)
    | ((with_reducible apply lm_sL); exact rfl)
    | ((with_reducible apply lm_sP); exact rfl; exact rfl)
    | ((with_reducible apply lm_sPL); exact rfl; exact rfl)
    | ((with_reducible apply lm_sAA); exact rfl; exact rfl)
    | ((with_reducible apply lm_sA); (first | exact rfl | assumption); omega)
    | ((with_reducible apply lm_sJ); (first | exact rfl | assumption); omega)
    | ((with_reducible apply lm_sB); (first | exact rfl | assumption); omega)
    | ((with_reducible apply lm_wA); (first | exact rfl | assumption); omega)
    | ((with_reducible apply lm_wJ); (first | exact rfl | assumption); omega)
    | ((with_reducible apply lm_wB); (first | exact rfl | assumption); omega)
    | ((with_reducible apply lm_sAl); (first | exact rfl | assumption); omega)
    | ((with_reducible apply lm_iW); decide))
    simp only [Nat.reduceDiv, Nat.reduceMod]
    rw [R1.2.2.1]
    refine lm_geT (by omega) (by omega) (by omega) ?_
    rw [lm_K0]
    exact KK
  rcases lm_l99e (sc := sc) (C := C) (K := K) (U := U) (d := d) (m := m1) (n := n1) (x := x) (s := s) (j := j) hs R1 E1 (fun u hu => by rw [a1 208 (by decide) (by decide) (by decide) (by decide)]; exact hK u hu) a3 with ⟨m2, n2, ⟨b1, b2, b3, b4⟩, k2⟩ | ⟨R, ⟨m2, n2, eR, b1, b2, b3⟩, k2⟩
  · have sA : ln_sA C K s := fun i t hi ht => b3 i hi t ht
    have R2 : lm_RD C s m2 n2 := R1.keep b2 (b1 221 (by decide) (by decide) (by decide)) (b1 268 (by decide) (by decide) (by decide))
    have E2 : lm_RE s m2 := E1.of fun j a b => b2.1 j (by omega) (by omega) (by omega) (by omega)
    obtain ⟨m3, n3, c3, f3, g3, v3⟩ := lm_u105 (sc := sc) (C := C) (d := d) (m := m2) (n := n2) (x := x) (s := s) (b0 := 38) (q := 332) (v := 64) (F := fun i c => lm_hi (lm_dg2 s) (ln_aW C K U s j i c)) (V := V) hs (by decide) R2 E2 rfl (by decide) (by omega) (by decide) (fun i hi c hc => ⟨(b4 i hi c hc).2, lm_hi_hb hs lm_aW_b⟩) (fun i hi => by rw [b1 330 (by decide) (by decide) (by decide), a1 330 (by decide) (by decide) (by decide) (by decide)]; exact hV i hi)
    have eC : ∀ t, t < lm_dsz s → m3 332 t = lm_aC C K U V s j t := fun t ht => by rw [v3 t ht]; unfold lm_aC; rfl
    have R3 : lm_RD C s m3 n3 := R2.keep g3 (f3 221 (by decide) (by decide) (by decide) (by decide)) (f3 268 (by decide) (by decide) (by decide) (by decide))
    have E3 : lm_RE s m3 := E2.of fun j a b => g3.1 j (by omega) (by omega) (by omega) (by omega)
    obtain ⟨m4, n4, c4, f4, g4, v4⟩ := lm_u102 (sc := sc) (C := C) (d := d) (m := m3) (n := n3) (x := x) (s := s) (p := 316) (q := 332) (v := 64) (a := 0) (l := lm_dsz s) (G := fun t => lm_b8 (lm_aC C K U V s j t)) hs rfl (by decide) R3.1 E3.1 E3.2.2.2.2.1 rfl (by decide) (by omega) (by decide) (fun t ht => by rw [Nat.zero_add, eC t ht])
    have eB : lm_aB C K U V s j = lm_ba (lm_Hm C 12 (fun t => lm_b8 (lm_aC C K U V s j t)) (lm_dsz s)) (lm_dt' s) 121 := by unfold lm_aB; rfl
    rw [← eB] at c4 v4
    have B4 : lm_fB m n m4 n4 := a2.tr (b2.tr (g3.tr g4.B))
    have E4 : lm_RE s m4 := hE.of fun j a b => B4.1 j (by omega) (by omega) (by omega) (by omega)
    have R4 : lm_RD C s m4 n4 := R3.keep g4.B (f4 221 (by decide) (by decide) (by decide) (by decide)) (f4 268 (by decide) (by decide) (by decide) (by decide))
    have fr : lm_fR m m4 := fun r q1 q2 q3 q4 => by rw [f4 r q1 q2 q3 (by omega), f3 r q1 q2 (by omega) (by omega), b1 r q1 q2 (by omega), a1 r q1 q2 (by omega) (by omega)]
    have run : ∀ R, lm_if .ne (lm_z (decide ((lm_aB C K U V s j).1 = 256))) 0 (lm_bind (lm_gI 4576 203) fun v9 => lm_bind (lm_gI 4572 203) fun v10 => lm_rn sc (d + 6) lm_m99.2.2.2.2.1 (lm_reg lm_m99.2.2.2.2.2) (347, [(0, .ref 203), (2, .int (v9 * v10)), (3, .int (Int32.ofInt 0))], [])) (lm_ret (some (.int (Int32.ofInt (-1))))) (lm_w m4 n4 x) = some R → lm_cal sc (d + 7) 99 [.ref 203, .int (Int32.ofNat j)] (lm_w m n x) = some R := by
      intro R KK
      clear a3 b3 b4 v3 v4 eC sA
      refine head R (k2 R (lm_e99_99 ?_))
      unfold lm_q99_99
      repeat (first
    | ((with_reducible apply lm_sI); exact rfl)
    | ((with_reducible apply lm_sR); exact rfl)
    | ((with_reducible apply lm_sS); exact rfl; exact rfl)
    | ((with_reducible apply lm_sL); exact rfl)
    | ((with_reducible apply lm_sP); exact rfl; exact rfl)
    | ((with_reducible apply lm_sPL); exact rfl; exact rfl)
    | ((with_reducible apply lm_sAA); exact rfl; exact rfl)
    | ((with_reducible apply lm_sA); (first | exact rfl | assumption); omega)
    | ((with_reducible apply lm_sJ); (first | exact rfl | assumption); omega)
    | ((with_reducible apply lm_sB); (first | exact rfl | assumption); omega)
    | ((with_reducible apply lm_wA); (first | exact rfl | assumption); omega)
    | ((with_reducible apply lm_wJ); (first | exact rfl | assumption); omega)
    | ((with_reducible apply lm_wB); (first | exact rfl | assumption); omega)
    | ((with_reducible apply lm_sAl); (first | exact rfl | assumption); omega)
    | ((with_reducible apply lm_iW); decide))
      simp only [Nat.reduceDiv, Nat.reduceMod]
      rw [R2.2.1]
      refine lm_geT (by omega) (by omega) (by omega) ?_
      rw [show Int32.ofInt 38 = Int32.ofNat 38 from rfl, show Int32.ofInt 46 = Int32.ofNat 46 from rfl, lm_K0]
      repeat (first
    | ((with_reducible apply lm_sI); exact rfl)
    | ((with_reducible apply lm_sR); exact rfl)
    | ((with_reducible apply lm_sS); exact rfl; exact rfl)
    | ((with_reducible apply lm_sL); exact rfl)
    | ((with_reducible apply lm_sP); exact rfl; exact rfl)
    | ((with_reducible apply lm_sPL); exact rfl; exact rfl)
    | ((with_reducible apply lm_sAA); exact rfl; exact rfl)
    | ((with_reducible apply lm_sA); (first | exact rfl | assumption); omega)
    | ((with_reducible apply lm_sJ); (first | exact rfl | assumption); omega)
    | ((with_reducible apply lm_sB); (first | exact rfl | assumption); omega)
    | ((with_reducible apply lm_wA); (first | exact rfl | assumption); omega)
    | ((with_reducible apply lm_wJ); (first | exact rfl | assumption); omega)
    | ((with_reducible apply lm_wB); (first | exact rfl | assumption); omega)
    | ((with_reducible apply lm_sAl); (first | exact rfl | assumption); omega)
    | ((with_reducible apply lm_iW); decide))
      refine lm_cV c3 ?_
      repeat (first
    | ((with_reducible apply lm_sI); exact rfl)
    | ((with_reducible apply lm_sR); exact rfl)
    | ((with_reducible apply lm_sS); exact rfl; exact rfl)
    | ((with_reducible apply lm_sL); exact rfl)
    | ((with_reducible apply lm_sP); exact rfl; exact rfl)
    | ((with_reducible apply lm_sPL); exact rfl; exact rfl)
    | ((with_reducible apply lm_sAA); exact rfl; exact rfl)
    | ((with_reducible apply lm_sA); (first | exact rfl | assumption); omega)
    | ((with_reducible apply lm_sJ); (first | exact rfl | assumption); omega)
    | ((with_reducible apply lm_sB); (first | exact rfl | assumption); omega)
    | ((with_reducible apply lm_wA); (first | exact rfl | assumption); omega)
    | ((with_reducible apply lm_wJ); (first | exact rfl | assumption); omega)
    | ((with_reducible apply lm_wB); (first | exact rfl | assumption); omega)
    | ((with_reducible apply lm_sAl); (first | exact rfl | assumption); omega)
    | ((with_reducible apply lm_iW); decide))
      refine lm_cI c4 ?_
      exact KK
    by_cases cb : (lm_aB C K U V s j).1 = 256
    · refine Or.inl ⟨sA, cb, m4, n4, fr, B4, fun t ht c hc => ?_, fun i hi c hc => ?_, fun t ht => ?_, v4, fun R KK => run R ?_⟩
      · rw [f4 _ (by omega) (by omega) (by omega) (by omega), f3 _ (by omega) (by omega) (by omega) (by omega), b1 _ (by omega) (by omega) (by omega)]
        exact a3 t ht c hc
      · rw [f4 _ (by omega) (by omega) (by omega) (by omega), f3 _ (by omega) (by omega) (by omega) (by omega)]
        exact (b4 i hi c hc).1
      · rw [f4 332 (by decide) (by decide) (by decide) (by decide)]
        exact eC t ht
      · rw [decide_eq_true cb]
        refine lm_iT (show ¬ (1 : Int32) = 0 by decide) ?_
        repeat (first
    | ((with_reducible apply lm_sI); exact rfl)
    | ((with_reducible apply lm_sR); exact rfl)
    | ((with_reducible apply lm_sS); exact rfl; exact rfl)
    | ((with_reducible apply lm_sL); exact rfl)
    | ((with_reducible apply lm_sP); exact rfl; exact rfl)
    | ((with_reducible apply lm_sPL); exact rfl; exact rfl)
    | ((with_reducible apply lm_sAA); exact rfl; exact rfl)
    | ((with_reducible apply lm_sA); (first | exact rfl | assumption); omega)
    | ((with_reducible apply lm_sJ); (first | exact rfl | assumption); omega)
    | ((with_reducible apply lm_sB); (first | exact rfl | assumption); omega)
    | ((with_reducible apply lm_wA); (first | exact rfl | assumption); omega)
    | ((with_reducible apply lm_wJ); (first | exact rfl | assumption); omega)
    | ((with_reducible apply lm_wB); (first | exact rfl | assumption); omega)
    | ((with_reducible apply lm_sAl); (first | exact rfl | assumption); omega)
    | ((with_reducible apply lm_iW); decide))
        simp only [Nat.reduceDiv, Nat.reduceMod]
        rw [E4.1, R4.2.2.2.1, lm_om, lm_K0]
        exact KK
    · refine Or.inr ⟨Or.inr cb, m4, n4, run _ ?_, fr, B4⟩
      rw [decide_eq_false cb]
      exact lm_iF (show ¬ ¬ (0 : Int32) = 0 by decide) rfl
  · rw [eR] at k2
    exact Or.inr ⟨Or.inl b3, m2, n2, head _ k2, fun r q1 q2 q3 q4 => by rw [b1 r q1 q2 (by omega), a1 r q1 q2 (by omega) (by omega)], a2.tr b2⟩
end LMRY
