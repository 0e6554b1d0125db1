/-! ===== dsaKeys of the reference: one call ===== -/
theorem lm_b44 {v : Int} {e : Nat} (he : e = 2 ∨ e = 4) (h : -(e : Int) ≤ v ∧ v ≤ e) : -4 ≤ v ∧ v ≤ 4 := by omega
theorem lm_le6 {a : Int} (h : a < 8380417) : a ≤ 8380416 := by omega
section LMRQ
variable {sc : lm_H} {C : lm_CX} {d s : Nat} {m : lm_MI} {n : lm_ML} {x : lm_H × Nat × Nat} {K E : Nat → Int32}
theorem lm_xVb (hs : s ≤ 2) (h : ∀ t, t < lm_dl s + lm_dk s → (lm_xS C K (lm_de s) t).1 = 256) {t c : Nat} (ht : t < lm_dl s + lm_dk s) (hc : c < 256) : -(lm_de s : Int) ≤ lm_xV C K s t c ∧ lm_xV C K s t c ≤ lm_de s := by
  rw [lm_xV_e]
  exact lm_xS_b (lm_de_2 hs) (h t ht) hc
/-- behind the small polynomials: the packs, the transforms, the rows -/
theorem lm_l28j (hs : s ≤ 2) (h : lm_RD C s m n) (hg : ∀ t, t < lm_dl s + lm_dk s → (lm_xS C (m 263) (lm_de s) t).1 = 256) (hV : ∀ t, t < lm_dl s + lm_dk s → ∀ c, c < 256 → m (270 + t) c = Int32.ofInt (lm_xV C (m 263) s t c)) (h4 : m 203 4 = 0) : (∃ m' n', (∀ i t, i < lm_dk s → t < lm_dl s → (lm_xA C (m 263) 0 i t).1 = 256) ∧ (∀ r, r ≠ 203 → r ≠ 227 → r ≠ 327 → r ≠ 328 → (r < 270 ∨ 311 < r) → m' r = m r) ∧ ln_fD m n m' n' ∧ m' 203 4 = 0 ∧ (∀ j, j < 320 * lm_dk s → lm_yb (m' 328 j) = lm_pkB (fun i c => ((lm_tH (lm_xR C (m 263) s i c) : Nat) : Int)) 10 j) ∧ (∀ j, j < lm_dss s - 128 → lm_yb (m' 327 j) = lm_xsec C (m 263) s (128 + j)) ∧ ∀ R, lm_rn sc (d + 6) lm_m28.2.2.2.2.1 (lm_reg lm_m28.2.2.2.2.2) (499, [(0, .ref 203), (5, .int (Int32.ofNat (lm_dk s)))], []) (lm_w m' n' x) = some R → lm_rn sc (d + 6) lm_m28.2.2.2.2.1 (lm_reg lm_m28.2.2.2.2.2) (169, [(0, .ref 203)], [.int (Int32.ofNat (lm_xb s))]) (lm_w m n x) = some R) ∨ ∃ m' n', (∃ i t, i < lm_dk s ∧ t < lm_dl s ∧ (lm_xA C (m 263) 0 i t).1 ≠ 256) ∧ (∀ r, r ≠ 203 → r ≠ 227 → r ≠ 327 → r ≠ 328 → (r < 270 ∨ 311 < r) → m' r = m r) ∧ ln_fD m n m' n' ∧ m' 203 4 = Int32.ofInt 3 ∧ lm_rn sc (d + 6) lm_m28.2.2.2.2.1 (lm_reg lm_m28.2.2.2.2.2) (169, [(0, .ref 203)], [.int (Int32.ofNat (lm_xb s))]) (lm_w m n x) = some (.ok (some (.int 0)), lm_w m' n' x) := by
  have hkl := lm_dkl hs
  have hxb := lm_xb_b s
  have hde := lm_de_2 hs
  have h8 := lm_xb8 hs
  have hsz := lm_xsz s hs
  have e1 : lm_xb1 s = 128 + 32 * lm_xb s * (lm_dl s + lm_dk s) := by unfold lm_xb1; rfl
  have bV := fun {t c : Nat} => lm_xVb (C := C) (K := m 263) (t := t) (c := c) hs hg
  generalize eM3 : lm_u m 203 24 (Int32.ofNat 0) = M3
  have r3 : ∀ r, r ≠ 203 → M3 r = m r := fun r hr => by rw [← eM3, lm_u_row hr]
  have f3 : ∀ j, j ≠ 24 → M3 203 j = m 203 j := fun j hj => by rw [← eM3, lm_u_ne (fun g => hj g.2)]
  have D3 : ln_fD m n M3 n := ⟨fun j _ _ _ _ g => f3 j g, fun _ _ _ _ _ _ _ => rfl⟩
  have h3 : lm_RD C s M3 n := h.keepD D3 (r3 221 (by decide)) (r3 268 (by decide))
  obtain ⟨m4, b1, b2, b3, b4, k4⟩ := lm_l28b (sc := sc) (d := d) (x := x) (m := M3) (n := n) (V := lm_xV C (m 263) s) hs h3 (fun t ht c hc => ⟨by rw [r3 _ (by omega)]; exact hV t ht c hc, bV ht hc⟩) (by rw [← eM3, lm_u_eq]; rfl)
  have D4 : ln_fD m n m4 n := D3.tr ⟨fun j _ _ _ _ g => b2 j g, fun _ _ _ _ _ _ _ => rfl⟩
  have r4 : ∀ r, r ≠ 203 → r ≠ 327 → m4 r = m r := fun r q1 q2 => by rw [b1 r q1 q2, r3 r q1]
  have h4' : lm_RD C s m4 n := h.keepD D4 (r4 221 (by decide) (by decide)) (r4 268 (by decide) (by decide))
  generalize eT : lm_xb s * (256 * (lm_dl s + lm_dk s)) = T0 at *
  obtain ⟨m5, n5, ⟨a1, a2, a3⟩, k5⟩ := lm_l28c (sc := sc) (d := d) (x := x) (m := m4) (n := n) (x4 := Int32.ofNat T0) (V := lm_xV C (m 263) s) hs h4' (fun t ht c hc => by
    have b := bV (t := t) (c := c) (by omega) hc
    exact ⟨by rw [r4 _ (by omega) (by omega)]; exact hV t (by omega) c hc, lm_b44 hde b⟩)
  have D5 : ln_fD m n m5 n5 := D4.tr ⟨fun j _ _ _ _ _ => by rw [a1 203 (by omega)], fun q _ _ _ _ _ g => a2 q g⟩
  generalize eM6 : lm_u m5 203 24 (Int32.ofNat 0) = M6
  have r6 : ∀ r, r ≠ 203 → M6 r = m5 r := fun r hr => by rw [← eM6, lm_u_row hr]
  have f6 : ∀ j, j ≠ 24 → M6 203 j = m5 203 j := fun j hj => by rw [← eM6, lm_u_ne (fun g => hj g.2)]
  have D6 : ln_fD m n M6 n5 := D5.tr ⟨fun j _ _ _ _ g => f6 j g, fun _ _ _ _ _ _ _ => rfl⟩
  have fr6 : ∀ r, r ≠ 203 → r ≠ 327 → (r < 270 ∨ 311 < r) → M6 r = m r := fun r q1 q2 q3 => by rw [r6 r q1, a1 r (by omega), r4 r q1 q2]
  have h6 : lm_RD C s M6 n5 := h.keepD D6 (fr6 221 (by decide) (by decide) (by decide)) (fr6 268 (by decide) (by decide) (by decide))
  have e263 : M6 263 = m 263 := fr6 263 (by decide) (by decide) (by decide)
  have g4 : M6 203 4 = 0 := by rw [f6 4 (by decide), a1 203 (by omega), b2 4 (by decide), f3 4 (by decide)]; exact h4
  have run1 : ∀ R, lm_rn sc (d + 6) lm_m28.2.2.2.2.1 (lm_reg lm_m28.2.2.2.2.2) (272, [(0, .ref 203), (4, .int (Int32.ofNat T0)), (5, .int (Int32.ofNat 0))], []) (lm_w M6 n5 x) = some R → lm_rn sc (d + 6) lm_m28.2.2.2.2.1 (lm_reg lm_m28.2.2.2.2.2) (169, [(0, .ref 203)], [.int (Int32.ofNat (lm_xb s))]) (lm_w m n x) = some R := by
    intro R KK
    clear hg hV b4 a3 bV
    refine lm_e28_169 ?_
    unfold lm_q28_169
    rw [lm_K0]
    repeat (first
    | ((with_reducible apply lm_sI); exact rfl)
    | ((with_reducible apply lm_sR); exact rfl)
    | ((with_reducible apply lm_sS); exact rfl; exact rfl)
    | ((with_reducible apply lm_sL); exact rfl)
    | ((with_reducible apply lm_sP); exact rfl; exact rfl)
    | ((with_reducible apply lm_sPL); exact rfl; exact rfl)
    | ((with_reducible apply lm_sAA); exact rfl; exact rfl)
    | ((with_reducible apply lm_sA); (first | exact rfl | assumption); omega)
    | ((with_reducible apply lm_sJ); (first | exact rfl | assumption); omega)
    | ((with_reducible apply lm_sB); (first | exact rfl | assumption); omega)
    | ((with_reducible apply lm_wA); (first | exact rfl | assumption); omega)
    | ((with_reducible apply lm_wJ); (first | exact rfl | assumption); omega)
    | ((with_reducible apply lm_wB); (first | exact rfl | assumption); omega)
    | ((with_reducible apply lm_sAl); (first | exact rfl | assumption); omega)
    | ((with_reducible apply lm_iW); decide))
    simp only [Nat.reduceDiv, Nat.reduceMod]
    rw [eM3]
    refine k4 R (lm_e28_178 ?_)
    unfold lm_q28_178
    repeat (first
    | ((with_reducible apply lm_sI); exact rfl)
    | ((with_reducible apply lm_sR); exact rfl)
    | ((with_reducible apply lm_sS); exact rfl; exact rfl)
    | ((with_reducible apply lm_sL); exact rfl)
    | ((with_reducible apply lm_sP); exact rfl; exact rfl)
    | ((with_reducible apply lm_sPL); exact rfl; exact rfl)
    | ((with_reducible apply lm_sAA); exact rfl; exact rfl)
    | ((with_reducible apply lm_sA); (first | exact rfl | assumption); omega)
    | ((with_reducible apply lm_sJ); (first | exact rfl | assumption); omega)
    | ((with_reducible apply lm_sB); (first | exact rfl | assumption); omega)
    | ((with_reducible apply lm_wA); (first | exact rfl | assumption); omega)
    | ((with_reducible apply lm_wJ); (first | exact rfl | assumption); omega)
    | ((with_reducible apply lm_wB); (first | exact rfl | assumption); omega)
    | ((with_reducible apply lm_sAl); (first | exact rfl | assumption); omega)
    | ((with_reducible apply lm_iW); decide))
    simp only [Nat.reduceDiv, Nat.reduceMod]
    rw [h4'.2.1, h4'.2.2.1, lm_oo]
    refine lm_geT (by omega) (by omega) (by omega) ?_
    repeat (first
    | ((with_reducible apply lm_sI); exact rfl)
    | ((with_reducible apply lm_sR); exact rfl)
    | ((with_reducible apply lm_sS); exact rfl; exact rfl)
    | ((with_reducible apply lm_sL); exact rfl)
    | ((with_reducible apply lm_sP); exact rfl; exact rfl)
    | ((with_reducible apply lm_sPL); exact rfl; exact rfl)
    | ((with_reducible apply lm_sAA); exact rfl; exact rfl)
    | ((with_reducible apply lm_sA); (first | exact rfl | assumption); omega)
    | ((with_reducible apply lm_sJ); (first | exact rfl | assumption); omega)
    | ((with_reducible apply lm_sB); (first | exact rfl | assumption); omega)
    | ((with_reducible apply lm_wA); (first | exact rfl | assumption); omega)
    | ((with_reducible apply lm_wJ); (first | exact rfl | assumption); omega)
    | ((with_reducible apply lm_wB); (first | exact rfl | assumption); omega)
    | ((with_reducible apply lm_sAl); (first | exact rfl | assumption); omega)
    | ((with_reducible apply lm_iW); decide))
    simp only [Nat.reduceDiv, Nat.reduceMod]
    rw [b3, lm_K0]
    refine k5 R (lm_e28_228 ?_)
    unfold lm_q28_228
    repeat (first
    | ((with_reducible apply lm_sI); exact rfl)
    | ((with_reducible apply lm_sR); exact rfl)
    | ((with_reducible apply lm_sS); exact rfl; exact rfl)
    | ((with_reducible apply lm_sL); exact rfl)
    | ((with_reducible apply lm_sP); exact rfl; exact rfl)
    | ((with_reducible apply lm_sPL); exact rfl; exact rfl)
    | ((with_reducible apply lm_sAA); exact rfl; exact rfl)
    | ((with_reducible apply lm_sA); (first | exact rfl | assumption); omega)
    | ((with_reducible apply lm_sJ); (first | exact rfl | assumption); omega)
    | ((with_reducible apply lm_sB); (first | exact rfl | assumption); omega)
    | ((with_reducible apply lm_wA); (first | exact rfl | assumption); omega)
    | ((with_reducible apply lm_wJ); (first | exact rfl | assumption); omega)
    | ((with_reducible apply lm_wB); (first | exact rfl | assumption); omega)
    | ((with_reducible apply lm_sAl); (first | exact rfl | assumption); omega)
    | ((with_reducible apply lm_iW); decide))
    simp only [Nat.reduceDiv, Nat.reduceMod]
    rw [a1 203 (by omega), h4'.2.2.1]
    refine lm_geT (by omega) (by omega) (by omega) ?_
    rw [lm_K0]
    repeat (first
    | ((with_reducible apply lm_sI); exact rfl)
    | ((with_reducible apply lm_sR); exact rfl)
    | ((with_reducible apply lm_sS); exact rfl; exact rfl)
    | ((with_reducible apply lm_sL); exact rfl)
    | ((with_reducible apply lm_sP); exact rfl; exact rfl)
    | ((with_reducible apply lm_sPL); exact rfl; exact rfl)
    | ((with_reducible apply lm_sAA); exact rfl; exact rfl)
    | ((with_reducible apply lm_sA); (first | exact rfl | assumption); omega)
    | ((with_reducible apply lm_sJ); (first | exact rfl | assumption); omega)
    | ((with_reducible apply lm_sB); (first | exact rfl | assumption); omega)
    | ((with_reducible apply lm_wA); (first | exact rfl | assumption); omega)
    | ((with_reducible apply lm_wJ); (first | exact rfl | assumption); omega)
    | ((with_reducible apply lm_wB); (first | exact rfl | assumption); omega)
    | ((with_reducible apply lm_sAl); (first | exact rfl | assumption); omega)
    | ((with_reducible apply lm_iW); decide))
    simp only [Nat.reduceDiv, Nat.reduceMod]
    rw [eM6]
    exact KK
  rcases lm_l28f (sc := sc) (d := d) (x := x) (m := M6) (n := n5) (x4 := Int32.ofNat T0) (W := fun t c => ln_pt (fun c => lm_xV C (m 263) s t c % 8380417) c % 8380417) hs h6 g4 (by rw [← eM6, lm_u_eq]) (fun t ht c hc => by
      have u := Int.emod_nonneg (ln_pt (fun c => lm_xV C (m 263) s t c % 8380417) c) (show (8380417 : Int) ≠ 0 by decide)
      have v := Int.emod_lt_of_pos (ln_pt (fun c => lm_xV C (m 263) s t c % 8380417) c) (show (0 : Int) < 8380417 by decide)
      exact ⟨by rw [r6 _ (by omega)]; exact a3 t ht c hc, u, lm_le6 v⟩) (fun t ht c hc => by
      rw [e263]
      exact ln_cg.em.tr (lm_pt_cg (fun c _ => ln_cg.em) c)) (fun i hi c hc => by
      have b := bV (t := lm_dl s + i) (c := c) (by omega) hc
      rw [e263]
      exact ⟨by rw [r6 _ (by omega), a1 _ (by omega), r4 _ (by omega) (by omega)]; exact hV _ (by omega) c hc, lm_b44 hde b⟩) with ⟨m7, n7, ⟨q1, q2, q3, q4, q5, q6, q7⟩, k7⟩ | ⟨R, ⟨m7, n7, eR, q1, q2, q3, i, t, hi, ht, q6⟩, k7⟩
  · rw [e263] at q5 q6 q7
    have D7 := D6.tr q2
    have fr7 : ∀ r, r ≠ 203 → r ≠ 227 → r ≠ 327 → r ≠ 328 → (r < 270 ∨ 311 < r) → m7 r = m r := fun r p1 p2 p3 p4 p5 => by rw [q1 r p1 p2 p4 (by omega), fr6 r p1 p3 p5]
    generalize eM8 : lm_u m7 203 24 (Int32.ofNat T0) = M8
    have r8 : ∀ r, r ≠ 203 → M8 r = m7 r := fun r hr => by rw [← eM8, lm_u_row hr]
    have f8 : ∀ j, j ≠ 24 → M8 203 j = m7 203 j := fun j hj => by rw [← eM8, lm_u_ne (fun g => hj g.2)]
    have D8 : ln_fD m n M8 n7 := D7.tr ⟨fun j _ _ _ _ g => f8 j g, fun _ _ _ _ _ _ _ => rfl⟩
    have h7 : m7 203 32 = Int32.ofNat (lm_dk s) := by rw [D7.1 32 (by decide) (by decide) (by decide) (by decide) (by decide)]; exact h.2.1
    have e327 : M8 327 = m4 327 := by rw [r8 327 (by decide), q1 327 (by decide) (by decide) (by decide) (by decide), r6 327 (by decide), a1 327 (by omega)]
    obtain ⟨m9, o1, o2, o3, k9⟩ := lm_l28g (sc := sc) (d := d) (x := x) (m := M8) (n := n7) (T0 := T0) (S := lm_xS2 C (m 263) s) (V := fun i c => lm_tL (lm_xR C (m 263) s i c)) hs (by rw [f8 32 (by decide)]; exact h7) h8.2 (by rw [← eM8, lm_u_eq]; rfl) (by
        unfold lm_PB
        rw [e327]
        refine ⟨fun t ht => ?_, fun t _ _ g => absurd (show (T0 + 13 * (256 * 0)) % 8 = 0 by omega) g⟩
        unfold lm_xS2
        rw [eT, if_pos (by omega)]
        exact b4.1 t (by omega)) (fun t => by
        unfold lm_xS2
        rw [eT, if_neg (by omega), Nat.add_sub_cancel_left]) (fun i hi c hc => by
        have b := lm_tL_b (lm_xR C (m 263) s i c)
        exact ⟨by rw [r8 _ (by omega)]; exact q7 i hi c hc, b.1, b.2⟩)
    refine Or.inl ⟨m9, n7, fun i t hi ht => q6 i hi t ht, fun r p1 p2 p3 p4 p5 => by rw [o1 r p1 p3, r8 r p1, fr7 r p1 p2 p3 p4 p5], D8.tr ⟨fun j _ _ _ _ g => o2 j g, fun _ _ _ _ _ _ _ => rfl⟩, by rw [o2 4 (by decide), f8 4 (by decide)]; exact q3, fun j hj => ?_, fun j hj => ?_, fun R KK => run1 R (k7 R (lm_e28_272 ?_))⟩
    · rw [o1 328 (by decide) (by decide), r8 328 (by decide), ← lm_pkB_g (by decide)]
      have := lm_PB_yb q5 (j := j) (by omega)
      rw [Nat.zero_add] at this
      exact this
    · rw [← lm_xS2_b hs]
      have := lm_PB_yb o3 (j := j) (by omega)
      rw [Nat.zero_add] at this
      exact this
    · clear q5 q6 q7 o3 hg hV bV a3 b4
      unfold lm_q28_272
      repeat (first
    | ((with_reducible apply lm_sI); exact rfl)
    | ((with_reducible apply lm_sR); exact rfl)
    | ((with_reducible apply lm_sS); exact rfl; exact rfl)
    | ((with_reducible apply lm_sL); exact rfl)
    | ((with_reducible apply lm_sP); exact rfl; exact rfl)
    | ((with_reducible apply lm_sPL); exact rfl; exact rfl)
    | ((with_reducible apply lm_sAA); exact rfl; exact rfl)
    | ((with_reducible apply lm_sA); (first | exact rfl | assumption); omega)
    | ((with_reducible apply lm_sJ); (first | exact rfl | assumption); omega)
    | ((with_reducible apply lm_sB); (first | exact rfl | assumption); omega)
    | ((with_reducible apply lm_wA); (first | exact rfl | assumption); omega)
    | ((with_reducible apply lm_wJ); (first | exact rfl | assumption); omega)
    | ((with_reducible apply lm_wB); (first | exact rfl | assumption); omega)
    | ((with_reducible apply lm_sAl); (first | exact rfl | assumption); omega)
    | ((with_reducible apply lm_iW); decide))
      simp only [Nat.reduceDiv, Nat.reduceMod]
      rw [h7]
      refine lm_geT (by omega) (by omega) (by omega) ?_
      rw [lm_K0]
      repeat (first
    | ((with_reducible apply lm_sI); exact rfl)
    | ((with_reducible apply lm_sR); exact rfl)
    | ((with_reducible apply lm_sS); exact rfl; exact rfl)
    | ((with_reducible apply lm_sL); exact rfl)
    | ((with_reducible apply lm_sP); exact rfl; exact rfl)
    | ((with_reducible apply lm_sPL); exact rfl; exact rfl)
    | ((with_reducible apply lm_sAA); exact rfl; exact rfl)
    | ((with_reducible apply lm_sA); (first | exact rfl | assumption); omega)
    | ((with_reducible apply lm_sJ); (first | exact rfl | assumption); omega)
    | ((with_reducible apply lm_sB); (first | exact rfl | assumption); omega)
    | ((with_reducible apply lm_wA); (first | exact rfl | assumption); omega)
    | ((with_reducible apply lm_wJ); (first | exact rfl | assumption); omega)
    | ((with_reducible apply lm_wB); (first | exact rfl | assumption); omega)
    | ((with_reducible apply lm_sAl); (first | exact rfl | assumption); omega)
    | ((with_reducible apply lm_iW); decide))
      simp only [Nat.reduceDiv, Nat.reduceMod]
      rw [eM8]
      exact k9 R KK
  · rw [e263] at q6
    rw [eR] at k7
    exact Or.inr ⟨m7, n7, ⟨i, t, hi, ht, q6⟩, fun r p1 p2 p3 p4 p5 => by rw [q1 r p1 p2 p4 (by omega), fr6 r p1 p3 p5], D6.tr q2, q3, run1 _ k7⟩
end LMRQ
