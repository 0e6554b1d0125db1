/-! ===== dsaKeys of the reference: the rows ===== -/
theorem lm_pt_cg {F G : Nat → Int} (h : ∀ c, c < 256 → ln_cg 8380417 (F c) (G c)) (j : Nat) : ln_cg 8380417 (ln_pt F j) (ln_pt G j) := by
  unfold ln_pt
  exact lm_sg_cg fun t ht => (h t ht).mu ln_cg.rf
theorem lm_yT_as {A : Nat → Nat → Nat → Int} {V W : Nat → Nat → Int} {l i c : Nat} (hW : ∀ t, t < l → ∀ c, c < 256 → ln_cg 8380417 (W t c) (ln_pt (V t) c)) : lm_ut (lm_as (fun t c => A i t c) W l) c % 8380417 = lm_yT A V l i c := by
  unfold lm_yT
  exact (lm_ut_cg (fun c hc => (lm_as_cg l).tr (lm_sg_cg fun t ht => ln_cg.rf.mu (hW t ht c hc))) c).eq
theorem lm_xR_e {C : lm_CX} {K : Nat → Int32} {s i c : Nat} : lm_xR C K s i c = lm_tr (lm_yT (lm_xAm C K) (lm_xV C K s) (lm_dl s) i) (lm_xV C K s (lm_dl s + i)) c := by
  unfold lm_xR
  rw [lm_yR_e]
section LMRN
variable {sc : lm_H} {C : lm_CX} {d s : Nat} {m m0 : lm_MI} {n n0 : lm_ML} {x : lm_H × Nat × Nat} {x4 : Int32} {W : Nat → Nat → Int}
def lm_I272 (C : lm_CX) (K : Nat → Int32) (s : Nat) (m0 : lm_MI) (n0 : lm_ML) (i : Nat) (m : lm_MI) (n : lm_ML) : Prop := (∀ r, r ≠ 203 → r ≠ 227 → r ≠ 328 → (r < 290 ∨ 311 < r) → m r = m0 r) ∧ ln_fD m0 n0 m n ∧ m 203 4 = 0 ∧ m 203 24 = Int32.ofNat (10 * (256 * i + 0)) ∧ lm_PB m 328 0 (10 * (256 * i + 0)) (lm_ts (lm_Fg (fun i c => ((lm_tH (lm_xR C K s i c) : Nat) : Int))) 10) ∧ (∀ i', i' < i → ∀ t, t < lm_dl s → (lm_xA C K 0 i' t).1 = 256) ∧ ∀ i', i' < i → ∀ c, c < 256 → m (270 + (20 + i')) c = Int32.ofInt (lm_tL (lm_xR C K s i' c))
def lm_E272 (C : lm_CX) (K : Nat → Int32) (s : Nat) (m0 : lm_MI) (n0 : lm_ML) (x : lm_H × Nat × Nat) (R : Except Nat lm_R × lm_S) : Prop := ∃ m n, R = (.ok (some (.int 0)), lm_w m n x) ∧ (∀ r, r ≠ 203 → r ≠ 227 → r ≠ 328 → (r < 290 ∨ 311 < r) → m r = m0 r) ∧ ln_fD m0 n0 m n ∧ m 203 4 = Int32.ofInt 3 ∧ ∃ i t, i < lm_dk s ∧ t < lm_dl s ∧ (lm_xA C K 0 i t).1 ≠ 256
theorem lm_l28f (hs : s ≤ 2) (h : lm_RD C s m n) (h4 : m 203 4 = 0) (h24 : m 203 24 = Int32.ofNat (10 * (256 * 0 + 0))) (hW : ∀ t, t < lm_dl s → ∀ c, c < 256 → m (270 + t) c = Int32.ofInt (W t c) ∧ 0 ≤ W t c ∧ W t c ≤ 8380416) (hWV : ∀ t, t < lm_dl s → ∀ c, c < 256 → ln_cg 8380417 (W t c) (ln_pt (lm_xV C (m 263) s t) c)) (hV : ∀ i, i < lm_dk s → ∀ c, c < 256 → m (270 + (lm_dl s + i)) c = Int32.ofInt (lm_xV C (m 263) s (lm_dl s + i) c) ∧ -4 ≤ lm_xV C (m 263) s (lm_dl s + i) c ∧ lm_xV C (m 263) s (lm_dl s + i) c ≤ 4) : (∃ m' n', lm_I272 C (m 263) s m n (lm_dk s) m' n' ∧ ∀ R, lm_rn sc (d + 6) lm_m28.2.2.2.2.1 (lm_reg lm_m28.2.2.2.2.2) (272, [(0, .ref 203), (4, .int x4), (5, .int (Int32.ofNat (lm_dk s)))], []) (lm_w m' n' x) = some R → lm_rn sc (d + 6) lm_m28.2.2.2.2.1 (lm_reg lm_m28.2.2.2.2.2) (272, [(0, .ref 203), (4, .int x4), (5, .int (Int32.ofNat 0))], []) (lm_w m n x) = some R) ∨ ∃ R, lm_E272 C (m 263) s m n x R ∧ lm_rn sc (d + 6) lm_m28.2.2.2.2.1 (lm_reg lm_m28.2.2.2.2.2) (272, [(0, .ref 203), (4, .int x4), (5, .int (Int32.ofNat 0))], []) (lm_w m n x) = some R := by
  have hkl := lm_dkl hs
  refine lm_lpe (sc := sc) (d := d + 6) (b := lm_dk s) (hs := lm_m28.2.2.2.2.1) (code := lm_reg lm_m28.2.2.2.2.2) (x := x) (fr := fun i => (272, [(0, .ref 203), (4, .int x4), (5, .int (Int32.ofNat i))], [])) (I := fun i m' n' => lm_I272 C (m 263) s m n i m' n') (E := lm_E272 C (m 263) s m n x) (fun i hi m1 n1 ⟨g1, g2, g3, g4, g5, g6, g7⟩ => ?_) (lm_dk s) 0 (by omega) m n ⟨fun _ _ _ _ _ => rfl, .rf, h4, h24, ⟨fun t ht => absurd ht (by omega), fun t _ _ h => absurd (by decide) h⟩, fun i' hi' => absurd hi' (by omega), fun i' hi' => absurd hi' (by omega)⟩
  have e263 : m1 263 = m 263 := g1 263 (by decide) (by decide) (by decide) (by decide)
  obtain ⟨m2, c2, p2⟩ := lm_u81 (sc := sc) (d := d + 5) (m := m1) (n := n1) (x := x) (p := 310) rfl
  have D2 : ln_fD m n m2 n1 := g2.tr (lm_fB.of (p2.1 203 (by decide))).D
  have f2 : ∀ r, r ≠ 203 → r ≠ 227 → r ≠ 328 → (r < 290 ∨ 311 < r) → m2 r = m r := fun r q1 q2 q3 q4 => by rw [p2.1 r (by omega), g1 r q1 q2 q3 q4]
  have h1 : lm_RD C s m1 n1 := h.keepD g2 (g1 221 (by decide) (by decide) (by decide) (by decide)) (g1 268 (by decide) (by decide) (by decide) (by decide))
  have h2 : lm_RD C s m2 n1 := h.keepD D2 (f2 221 (by decide) (by decide) (by decide) (by decide)) (f2 268 (by decide) (by decide) (by decide) (by decide))
  have e263' : m2 263 = m 263 := f2 263 (by decide) (by decide) (by decide) (by decide)
  have head : ∀ R, lm_rn sc (d + 6) lm_m28.2.2.2.2.1 (lm_reg lm_m28.2.2.2.2.2) (294, [(0, .ref 203), (4, .int x4), (5, .int (Int32.ofNat i)), (6, .int (Int32.ofNat 0))], []) (lm_w m2 n1 x) = some R → lm_rn sc (d + 6) lm_m28.2.2.2.2.1 (lm_reg lm_m28.2.2.2.2.2) (272, [(0, .ref 203), (4, .int x4), (5, .int (Int32.ofNat i))], []) (lm_w m1 n1 x) = some R := by
    intro R K
    clear g6 g7 hWV hV
    refine lm_e28_272 ?_
    unfold lm_q28_272
    repeat (first
    | ((with_reducible apply lm_sI); exact rfl)
    | ((with_reducible apply lm_sR); exact rfl)
    | ((with_reducible apply lm_sS); exact rfl; exact rfl)
    | ((with_reducible apply lm_sL); exact rfl)
    | ((with_reducible apply lm_sP); exact rfl; exact rfl)
    | ((with_reducible apply lm_sPL); exact rfl; exact rfl)
    | ((with_reducible apply lm_sAA); exact rfl; exact rfl)
    | ((with_reducible apply lm_sA); (first | exact rfl | assumption); omega)
    | ((with_reducible apply lm_sJ); (first | exact rfl | assumption); omega)
    | ((with_reducible apply lm_sB); (first | exact rfl | assumption); omega)
    | ((with_reducible apply lm_wA); (first | exact rfl | assumption); omega)
    | ((with_reducible apply lm_wJ); (first | exact rfl | assumption); omega)
    | ((with_reducible apply lm_wB); (first | exact rfl | assumption); omega)
    | ((with_reducible apply lm_sAl); (first | exact rfl | assumption); omega)
    | ((with_reducible apply lm_iW); decide))
    simp only [Nat.reduceDiv, Nat.reduceMod]
    rw [h1.2.1]
    refine lm_geF (by omega) (by omega) (by omega) ?_
    rw [show Int32.ofInt 40 = Int32.ofNat 40 from rfl, lm_K0]
    repeat (first
    | ((with_reducible apply lm_sI); exact rfl)
    | ((with_reducible apply lm_sR); exact rfl)
    | ((with_reducible apply lm_sS); exact rfl; exact rfl)
    | ((with_reducible apply lm_sL); exact rfl)
    | ((with_reducible apply lm_sP); exact rfl; exact rfl)
    | ((with_reducible apply lm_sPL); exact rfl; exact rfl)
    | ((with_reducible apply lm_sAA); exact rfl; exact rfl)
    | ((with_reducible apply lm_sA); (first | exact rfl | assumption); omega)
    | ((with_reducible apply lm_sJ); (first | exact rfl | assumption); omega)
    | ((with_reducible apply lm_sB); (first | exact rfl | assumption); omega)
    | ((with_reducible apply lm_wA); (first | exact rfl | assumption); omega)
    | ((with_reducible apply lm_wJ); (first | exact rfl | assumption); omega)
    | ((with_reducible apply lm_wB); (first | exact rfl | assumption); omega)
    | ((with_reducible apply lm_sAl); (first | exact rfl | assumption); omega)
    | ((with_reducible apply lm_iW); decide))
    refine lm_cV c2 ?_
    exact K
  rcases lm_l28d (sc := sc) (d := d) (x := x) (m := m2) (n := n1) (W := W) (x4 := x4) (i := i) hs h2 (by rw [p2.1 203 (by decide)]; exact g3) hi (fun t ht c hc => by rw [f2 _ (by omega) (by omega) (by omega) (by omega)]; exact hW t ht c hc) (fun c hc => p2.2 c hc) with ⟨m3, n3, ⟨a1, a2, a3, a24, a4, a5⟩, k3⟩ | ⟨R, ⟨m3, n3, eR, a1, a2, a3, t, ht, a4⟩, k3⟩
  · rw [e263'] at a4 a5
    have D3 := D2.tr a2
    have f3 : ∀ r, r ≠ 203 → r ≠ 227 → r ≠ 328 → (r < 290 ∨ 311 < r) → m3 r = m r := fun r q1 q2 q3 q4 => by rw [a1 r q1 q2 (by omega) (by omega), f2 r q1 q2 q3 q4]
    have h3 : lm_RD C s m3 n3 := h.keepD D3 (f3 221 (by decide) (by decide) (by decide) (by decide)) (f3 268 (by decide) (by decide) (by decide) (by decide))
    obtain ⟨m4, n4, c4, p4, q4⟩ := lm_u93 (sc := sc) (d := d + 4) (m := m3) (n := n3) (x := x) (p := 310) (G := lm_as (fun t c => lm_xAm C (m 263) i t c) W (lm_dl s)) rfl h3.2.2.2.2 (lm_as_rg (l := lm_dl s) (fun t ht c hc => by rw [lm_xAm_e]; omega) (fun t ht c hc => (hW t ht c hc).2.1) (lm_dl s) (by omega)) a5
    have D4 : ln_fD m n m4 n4 := D3.tr ⟨fun j _ _ _ _ _ => by rw [p4.1 203 (by decide)], fun q _ _ _ _ _ g => q4 q g⟩
    have e4 : ∀ r, r ≠ 310 → m4 r = m3 r := p4.1
    have T4 : m4 203 24 = Int32.ofNat (10 * (256 * i + 0)) := by rw [e4 203 (by decide), a24, p2.1 203 (by decide)]; exact g4
    have e328 : m4 328 = m1 328 := by rw [e4 328 (by decide), a1 328 (by decide) (by decide) (by decide) (by decide), p2.1 328 (by decide)]
    obtain ⟨m5, b1, b2, b3, b4, b5, k5⟩ := lm_l28e (sc := sc) (d := d) (m := m4) (n := n4) (x := x) (x4 := x4) (l := lm_dl s) (i := i) (Rr := lm_xR C (m 263) s) (T := lm_yT (lm_xAm C (m 263)) (lm_xV C (m 263) s) (lm_dl s) i) (S := lm_xV C (m 263) s (lm_dl s + i)) (by omega) (by omega) (by rw [e4 203 (by decide)]; exact h3.2.2.1) (fun c hc => by
        have b := lm_yT_b (A := lm_xAm C (m 263)) (V := lm_xV C (m 263) s) (l := lm_dl s) (i := i) (c := c)
        refine ⟨?_, b.1, by omega⟩
        rw [p4.2 c hc]
        exact congrArg Int32.ofInt (lm_yT_as (A := lm_xAm C (m 263)) (V := lm_xV C (m 263) s) hWV)) (fun c hc => by rw [e4 _ (by omega), f3 _ (by omega) (by omega) (by omega) (by omega)]; exact hV i hi c hc) (fun c hc => lm_xR_e.symm) T4 (by unfold lm_PB; rw [e328]; exact g5)
    refine Or.inl ⟨m5, n4, ⟨fun r q1 q2 q3 q4 => by rw [b1 r q1 q3 (by omega), e4 r (by omega), f3 r q1 q2 q3 q4], D4.tr ⟨fun j _ _ _ _ g => b2 j g, fun _ _ _ _ _ _ _ => rfl⟩, ?_, b3, b4, fun i' hi' t ht => ?_, fun i' hi' c hc => ?_⟩, fun R K => head R (k3 R (lm_e28_294 ?_))⟩
    · rw [b2 4 (by decide), e4 203 (by decide)]; exact a3
    · by_cases c0 : i' = i
      · subst c0; exact a4 t ht
      · exact g6 i' (by omega) t ht
    · by_cases c0 : i' = i
      · subst c0; exact b5 c hc
      · rw [b1 _ (by omega) (by omega) (by omega), e4 _ (by omega), a1 _ (by omega) (by omega) (by omega) (by omega), p2.1 _ (by omega)]
        exact g7 i' (by omega) c hc
    · clear g6 g7 a4 a5 hWV hV b4 b5 g5
      unfold lm_q28_294
      repeat (first
    | ((with_reducible apply lm_sI); exact rfl)
    | ((with_reducible apply lm_sR); exact rfl)
    | ((with_reducible apply lm_sS); exact rfl; exact rfl)
    | ((with_reducible apply lm_sL); exact rfl)
    | ((with_reducible apply lm_sP); exact rfl; exact rfl)
    | ((with_reducible apply lm_sPL); exact rfl; exact rfl)
    | ((with_reducible apply lm_sAA); exact rfl; exact rfl)
    | ((with_reducible apply lm_sA); (first | exact rfl | assumption); omega)
    | ((with_reducible apply lm_sJ); (first | exact rfl | assumption); omega)
    | ((with_reducible apply lm_sB); (first | exact rfl | assumption); omega)
    | ((with_reducible apply lm_wA); (first | exact rfl | assumption); omega)
    | ((with_reducible apply lm_wJ); (first | exact rfl | assumption); omega)
    | ((with_reducible apply lm_wB); (first | exact rfl | assumption); omega)
    | ((with_reducible apply lm_sAl); (first | exact rfl | assumption); omega)
    | ((with_reducible apply lm_iW); decide))
      simp only [Nat.reduceDiv, Nat.reduceMod]
      rw [h3.2.2.1]
      refine lm_geT (by omega) (by omega) (by omega) ?_
      rw [show Int32.ofInt 40 = Int32.ofNat 40 from rfl, lm_K0]
      repeat (first
    | ((with_reducible apply lm_sI); exact rfl)
    | ((with_reducible apply lm_sR); exact rfl)
    | ((with_reducible apply lm_sS); exact rfl; exact rfl)
    | ((with_reducible apply lm_sL); exact rfl)
    | ((with_reducible apply lm_sP); exact rfl; exact rfl)
    | ((with_reducible apply lm_sPL); exact rfl; exact rfl)
    | ((with_reducible apply lm_sAA); exact rfl; exact rfl)
    | ((with_reducible apply lm_sA); (first | exact rfl | assumption); omega)
    | ((with_reducible apply lm_sJ); (first | exact rfl | assumption); omega)
    | ((with_reducible apply lm_sB); (first | exact rfl | assumption); omega)
    | ((with_reducible apply lm_wA); (first | exact rfl | assumption); omega)
    | ((with_reducible apply lm_wJ); (first | exact rfl | assumption); omega)
    | ((with_reducible apply lm_wB); (first | exact rfl | assumption); omega)
    | ((with_reducible apply lm_sAl); (first | exact rfl | assumption); omega)
    | ((with_reducible apply lm_iW); decide))
      refine lm_cV c4 ?_
      refine k5 R (lm_e28_377 ?_)
      rw [lm_K256]
      refine lm_geT (by omega) (by omega) (by omega) ?_
      rw [lm_K1, lm_oo]
      exact K
  · rw [e263'] at a4
    rw [eR] at k3
    exact Or.inr ⟨_, ⟨m3, n3, rfl, fun r q1 q2 q3 q4 => by rw [a1 r q1 q2 (by omega) (by omega), f2 r q1 q2 q3 q4], D2.tr a2, a3, i, t, hi, ht, a4⟩, head _ k3⟩
end LMRN
