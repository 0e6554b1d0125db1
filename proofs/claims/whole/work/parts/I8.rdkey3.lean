/-! ===== dsaKeys of the reference: the packs, the transforms ===== -/
theorem lm_Fg_ts {F : Nat → Nat → Int} {bits t i k : Nat} (hb : 0 < bits) (hi : i < 256) (hk : k < bits) : lm_ts (lm_Fg F) bits (bits * (256 * t) + bits * i + k) = (F t i).toNat.testBit k := by
  unfold lm_ts
  rw [← Nat.mul_add, Nat.mul_add_div hb, Nat.div_eq_of_lt hk, Nat.add_zero, Nat.mul_add_mod, Nat.mod_eq_of_lt hk, lm_Fg_at hi]
section LMRJ
variable {sc : lm_H} {C : lm_CX} {d s : Nat} {m m0 : lm_MI} {n n0 : lm_ML} {x : lm_H × Nat × Nat} {V : Nat → Nat → Int}
theorem lm_l28b (hs : s ≤ 2) (h : lm_RD C s m n) (hV : ∀ t, t < lm_dl s + lm_dk s → ∀ c, c < 256 → m (270 + t) c = Int32.ofInt (V t c) ∧ -(lm_de s : Int) ≤ V t c ∧ V t c ≤ lm_de s) (hT : m 203 24 = Int32.ofNat (lm_xb s * (256 * 0))) : ∃ m', (∀ r, r ≠ 203 → r ≠ 327 → m' r = m r) ∧ (∀ j, j ≠ 24 → m' 203 j = m 203 j) ∧ m' 203 24 = Int32.ofNat (lm_xb s * (256 * (lm_dl s + lm_dk s))) ∧ lm_PB m' 327 0 (lm_xb s * (256 * (lm_dl s + lm_dk s))) (lm_ts (lm_Fg (fun t c => (lm_de s : Int) - V t c)) (lm_xb s)) ∧ ∀ R, lm_rn sc (d + 6) lm_m28.2.2.2.2.1 (lm_reg lm_m28.2.2.2.2.2) (178, [(0, .ref 203), (3, .int (Int32.ofNat (lm_xb s))), (4, .int (Int32.ofNat (lm_dl s + lm_dk s)))], []) (lm_w m' n x) = some R → lm_rn sc (d + 6) lm_m28.2.2.2.2.1 (lm_reg lm_m28.2.2.2.2.2) (178, [(0, .ref 203), (3, .int (Int32.ofNat (lm_xb s))), (4, .int (Int32.ofNat 0))], []) (lm_w m n x) = some R := by
  have hkl := lm_dkl hs
  have hxb := lm_xb_b s
  have hde := lm_de_2 hs
  obtain ⟨m', n', ⟨en, h1, h2, h3, h4⟩, k1⟩ := lm_lp (sc := sc) (d := d + 6) (b := lm_dl s + lm_dk s) (hs := lm_m28.2.2.2.2.1) (code := lm_reg lm_m28.2.2.2.2.2) (x := x) (fr := fun t => (178, [(0, .ref 203), (3, .int (Int32.ofNat (lm_xb s))), (4, .int (Int32.ofNat t))], [])) (I := fun t m' n' => n' = n ∧ (∀ r, r ≠ 203 → r ≠ 327 → m' r = m r) ∧ (∀ j, j ≠ 24 → m' 203 j = m 203 j) ∧ m' 203 24 = Int32.ofNat (lm_xb s * (256 * t)) ∧ lm_PB m' 327 0 (lm_xb s * (256 * t)) (lm_ts (lm_Fg (fun t c => (lm_de s : Int) - V t c)) (lm_xb s))) (fun t ht m1 n1 ⟨en, h1, h2, h3, h4⟩ => by
    have hat : lm_xb s * (256 * t) + lm_xb s * 256 ≤ 4 * (256 * 15) := by
      rw [← Nat.mul_add]
      exact Nat.mul_le_mul hxb.2 (by omega)
    have e32 : m1 203 32 = Int32.ofNat (lm_dk s) := by rw [h2 32 (by decide)]; exact h.2.1
    have e42 : m1 203 42 = Int32.ofNat (lm_dl s) := by rw [h2 42 (by decide)]; exact h.2.2.1
    have e43 : m1 203 43 = Int32.ofInt (lm_de s : Int) := by rw [h2 43 (by decide), h.2.2.2.1, lm_oN]
    obtain ⟨m2, c2, p2, t2, f2, g2⟩ := lm_u88 (sc := sc) (d := d + 4) (m := m1) (n := n1) (x := x) (q := 327) (v := 16384) (p := 270 + t) (T := lm_xb s * (256 * t)) (bits := lm_xb s) (B := (lm_de s : Int)) (V := V t) rfl (by decide) (by decide) (lm_arY t (by omega)) (by omega) h3 (by omega) (by omega) (fun c hc => by
      obtain ⟨v1, v2, v3⟩ := hV t ht c hc
      exact ⟨by rw [h1 _ (by omega) (by omega)]; exact v1, by omega, by omega⟩) h4 (fun i hi k hk => by
      rw [lm_Fg_ts (by omega) hi hk])
    rw [show lm_xb s * (256 * t) + lm_xb s * 256 = lm_xb s * (256 * (t + 1)) by rw [← Nat.mul_add, Nat.mul_succ 256 t]] at p2 t2
    refine ⟨m2, n1, ⟨en, fun r r1 r2 => (f2 r r1 r2).trans (h1 r r1 r2), fun j hj => (g2 j hj).trans (h2 j hj), t2, p2⟩, fun R K => lm_e28_178 ?_⟩
    unfold lm_q28_178
    repeat (first
    | ((with_reducible apply lm_sI); exact rfl)
    | ((with_reducible apply lm_sR); exact rfl)
    | ((with_reducible apply lm_sS); exact rfl; exact rfl)
    | ((with_reducible apply lm_sL); exact rfl)
    | ((with_reducible apply lm_sP); exact rfl; exact rfl)
    | ((with_reducible apply lm_sPL); exact rfl; exact rfl)
    | ((with_reducible apply lm_sAA); exact rfl; exact rfl)
    | ((with_reducible apply lm_sA); (first | exact rfl | assumption); omega)
    | ((with_reducible apply lm_sJ); (first | exact rfl | assumption); omega)
    | ((with_reducible apply lm_sB); (first | exact rfl | assumption); omega)
    | ((with_reducible apply lm_wA); (first | exact rfl | assumption); omega)
    | ((with_reducible apply lm_wJ); (first | exact rfl | assumption); omega)
    | ((with_reducible apply lm_wB); (first | exact rfl | assumption); omega)
    | ((with_reducible apply lm_sAl); (first | exact rfl | assumption); omega)
    | ((with_reducible apply lm_iW); decide))
    simp only [Nat.reduceDiv, Nat.reduceMod]
    rw [e32, e42, lm_oo]
    refine lm_geF (by omega) (by omega) (by omega) ?_
    rw [lm_K0]
    repeat (first
    | ((with_reducible apply lm_sI); exact rfl)
    | ((with_reducible apply lm_sR); exact rfl)
    | ((with_reducible apply lm_sS); exact rfl; exact rfl)
    | ((with_reducible apply lm_sL); exact rfl)
    | ((with_reducible apply lm_sP); exact rfl; exact rfl)
    | ((with_reducible apply lm_sPL); exact rfl; exact rfl)
    | ((with_reducible apply lm_sAA); exact rfl; exact rfl)
    | ((with_reducible apply lm_sA); (first | exact rfl | assumption); omega)
    | ((with_reducible apply lm_sJ); (first | exact rfl | assumption); omega)
    | ((with_reducible apply lm_sB); (first | exact rfl | assumption); omega)
    | ((with_reducible apply lm_wA); (first | exact rfl | assumption); omega)
    | ((with_reducible apply lm_wJ); (first | exact rfl | assumption); omega)
    | ((with_reducible apply lm_wB); (first | exact rfl | assumption); omega)
    | ((with_reducible apply lm_sAl); (first | exact rfl | assumption); omega)
    | ((with_reducible apply lm_iW); decide))
    refine lm_sAA rfl (lm_roY t (by omega)) ?_
    repeat (first
    | ((with_reducible apply lm_sI); exact rfl)
    | ((with_reducible apply lm_sR); exact rfl)
    | ((with_reducible apply lm_sS); exact rfl; exact rfl)
    | ((with_reducible apply lm_sL); exact rfl)
    | ((with_reducible apply lm_sP); exact rfl; exact rfl)
    | ((with_reducible apply lm_sPL); exact rfl; exact rfl)
    | ((with_reducible apply lm_sAA); exact rfl; exact rfl)
    | ((with_reducible apply lm_sA); (first | exact rfl | assumption); omega)
    | ((with_reducible apply lm_sJ); (first | exact rfl | assumption); omega)
    | ((with_reducible apply lm_sB); (first | exact rfl | assumption); omega)
    | ((with_reducible apply lm_wA); (first | exact rfl | assumption); omega)
    | ((with_reducible apply lm_wJ); (first | exact rfl | assumption); omega)
    | ((with_reducible apply lm_wB); (first | exact rfl | assumption); omega)
    | ((with_reducible apply lm_sAl); (first | exact rfl | assumption); omega)
    | ((with_reducible apply lm_iW); decide))
    simp only [Nat.reduceDiv, Nat.reduceMod]
    rw [e43]
    refine lm_cV c2 ?_
    rw [lm_K1, lm_oo]
    exact K) (lm_dl s + lm_dk s) 0 (by omega) m n ⟨rfl, fun _ _ _ => rfl, fun _ _ => rfl, hT, ⟨fun t ht => absurd ht (by omega), fun t _ _ h => absurd (show lm_xb s * (256 * 0) % 8 = 0 by omega) h⟩⟩
  subst en
  exact ⟨m', h1, h2, h3, h4, k1⟩
/-- the transforms -/
theorem lm_l28c {x4 : Int32} (hs : s ≤ 2) (h : lm_RD C s m n) (hV : ∀ t, t < lm_dl s → ∀ c, c < 256 → m (270 + t) c = Int32.ofInt (V t c) ∧ -4 ≤ V t c ∧ V t c ≤ 4) : ∃ m' n', ((∀ r, (r < 270 ∨ 270 + lm_dl s ≤ r) → m' r = m r) ∧ (∀ q, q ≠ 230 → n' q = n q) ∧ ∀ t, t < lm_dl s → ∀ c, c < 256 → m' (270 + t) c = Int32.ofInt (ln_pt (fun c => V t c % 8380417) c % 8380417)) ∧ ∀ R, lm_rn sc (d + 6) lm_m28.2.2.2.2.1 (lm_reg lm_m28.2.2.2.2.2) (228, [(0, .ref 203), (4, .int x4), (5, .int (Int32.ofNat (lm_dl s)))], []) (lm_w m' n' x) = some R → lm_rn sc (d + 6) lm_m28.2.2.2.2.1 (lm_reg lm_m28.2.2.2.2.2) (228, [(0, .ref 203), (4, .int x4), (5, .int (Int32.ofNat 0))], []) (lm_w m n x) = some R := by
  have hkl := lm_dkl hs
  refine lm_lp (sc := sc) (d := d + 6) (b := lm_dl s) (hs := lm_m28.2.2.2.2.1) (code := lm_reg lm_m28.2.2.2.2.2) (x := x) (fr := fun t => (228, [(0, .ref 203), (4, .int x4), (5, .int (Int32.ofNat t))], [])) (I := fun t m' n' => (∀ r, (r < 270 ∨ 270 + t ≤ r) → m' r = m r) ∧ (∀ q, q ≠ 230 → n' q = n q) ∧ ∀ t', t' < t → ∀ c, c < 256 → m' (270 + t') c = Int32.ofInt (ln_pt (fun c => V t' c % 8380417) c % 8380417)) (fun t ht m1 n1 ⟨h1, h2, h3⟩ => ?_) (lm_dl s) 0 (by omega) m n ⟨fun _ _ => rfl, fun _ _ => rfl, fun t' ht' => absurd ht' (by omega)⟩
  obtain ⟨m2, c2, p2⟩ := lm_u89 (sc := sc) (d := d + 5) (m0 := m1) (m := m1) (n := n1) (x := x) (p := 270 + t) (G := V t) (lm_arY t (by omega)) ⟨fun _ _ => rfl, fun c hc => by rw [h1 _ (by omega)]; exact (hV t ht c hc).1⟩ (fun c hc => by have := hV t ht c hc; omega)
  obtain ⟨m3, n3, c3, p3, q3⟩ := lm_u90 (sc := sc) (d := d + 4) (m := m2) (n := n1) (x := x) (p := 270 + t) (G := fun c => V t c % 8380417) (lm_arY t (by omega)) (fun i hi => by rw [p2.1 268 (by omega), h1 268 (by omega)]; exact h.2.2.2.2 i hi) (fun c hc => by
    have a := Int.emod_nonneg (V t c) (show (8380417 : Int) ≠ 0 by decide)
    have b := Int.emod_lt_of_pos (V t c) (show (0 : Int) < 8380417 by decide)
    show 0 ≤ V t c % 8380417 ∧ V t c % 8380417 ≤ 8380416
    omega) p2.2
  refine ⟨m3, n3, ⟨fun r hr => by rw [p3.1 r (by omega), p2.1 r (by omega), h1 r (by omega)], fun q hq => by rw [q3 q hq, h2 q hq], fun t' ht' c hc => ?_⟩, fun R K => lm_e28_228 ?_⟩
  · by_cases c0 : t' = t
    · subst c0
      exact p3.2 c hc
    · rw [p3.1 _ (by omega), p2.1 _ (by omega)]
      exact h3 t' (by omega) c hc
  · have e42 : m1 203 42 = Int32.ofNat (lm_dl s) := by rw [h1 203 (by omega)]; exact h.2.2.1
    unfold lm_q28_228
    repeat (first
    | ((with_reducible apply lm_sI); exact rfl)
    | ((with_reducible apply lm_sR); exact rfl)
    | ((with_reducible apply lm_sS); exact rfl; exact rfl)
    | ((with_reducible apply lm_sL); exact rfl)
    | ((with_reducible apply lm_sP); exact rfl; exact rfl)
    | ((with_reducible apply lm_sPL); exact rfl; exact rfl)
    | ((with_reducible apply lm_sAA); exact rfl; exact rfl)
    | ((with_reducible apply lm_sA); (first | exact rfl | assumption); omega)
    | ((with_reducible apply lm_sJ); (first | exact rfl | assumption); omega)
    | ((with_reducible apply lm_sB); (first | exact rfl | assumption); omega)
    | ((with_reducible apply lm_wA); (first | exact rfl | assumption); omega)
    | ((with_reducible apply lm_wJ); (first | exact rfl | assumption); omega)
    | ((with_reducible apply lm_wB); (first | exact rfl | assumption); omega)
    | ((with_reducible apply lm_sAl); (first | exact rfl | assumption); omega)
    | ((with_reducible apply lm_iW); decide))
    simp only [Nat.reduceDiv, Nat.reduceMod]
    rw [e42]
    refine lm_geF (by omega) (by omega) (by omega) ?_
    repeat (first
    | ((with_reducible apply lm_sI); exact rfl)
    | ((with_reducible apply lm_sR); exact rfl)
    | ((with_reducible apply lm_sS); exact rfl; exact rfl)
    | ((with_reducible apply lm_sL); exact rfl)
    | ((with_reducible apply lm_sP); exact rfl; exact rfl)
    | ((with_reducible apply lm_sPL); exact rfl; exact rfl)
    | ((with_reducible apply lm_sAA); exact rfl; exact rfl)
    | ((with_reducible apply lm_sA); (first | exact rfl | assumption); omega)
    | ((with_reducible apply lm_sJ); (first | exact rfl | assumption); omega)
    | ((with_reducible apply lm_sB); (first | exact rfl | assumption); omega)
    | ((with_reducible apply lm_wA); (first | exact rfl | assumption); omega)
    | ((with_reducible apply lm_wJ); (first | exact rfl | assumption); omega)
    | ((with_reducible apply lm_wB); (first | exact rfl | assumption); omega)
    | ((with_reducible apply lm_sAl); (first | exact rfl | assumption); omega)
    | ((with_reducible apply lm_iW); decide))
    refine lm_sAA rfl (lm_roY t (by omega)) ?_
    refine lm_cV c2 ?_
    repeat (first
    | ((with_reducible apply lm_sI); exact rfl)
    | ((with_reducible apply lm_sR); exact rfl)
    | ((with_reducible apply lm_sS); exact rfl; exact rfl)
    | ((with_reducible apply lm_sL); exact rfl)
    | ((with_reducible apply lm_sP); exact rfl; exact rfl)
    | ((with_reducible apply lm_sPL); exact rfl; exact rfl)
    | ((with_reducible apply lm_sAA); exact rfl; exact rfl)
    | ((with_reducible apply lm_sA); (first | exact rfl | assumption); omega)
    | ((with_reducible apply lm_sJ); (first | exact rfl | assumption); omega)
    | ((with_reducible apply lm_sB); (first | exact rfl | assumption); omega)
    | ((with_reducible apply lm_wA); (first | exact rfl | assumption); omega)
    | ((with_reducible apply lm_wJ); (first | exact rfl | assumption); omega)
    | ((with_reducible apply lm_wB); (first | exact rfl | assumption); omega)
    | ((with_reducible apply lm_sAl); (first | exact rfl | assumption); omega)
    | ((with_reducible apply lm_iW); decide))
    refine lm_sAA rfl (lm_roY t (by omega)) ?_
    repeat (first
    | ((with_reducible apply lm_sI); exact rfl)
    | ((with_reducible apply lm_sR); exact rfl)
    | ((with_reducible apply lm_sS); exact rfl; exact rfl)
    | ((with_reducible apply lm_sL); exact rfl)
    | ((with_reducible apply lm_sP); exact rfl; exact rfl)
    | ((with_reducible apply lm_sPL); exact rfl; exact rfl)
    | ((with_reducible apply lm_sAA); exact rfl; exact rfl)
    | ((with_reducible apply lm_sA); (first | exact rfl | assumption); omega)
    | ((with_reducible apply lm_sJ); (first | exact rfl | assumption); omega)
    | ((with_reducible apply lm_sB); (first | exact rfl | assumption); omega)
    | ((with_reducible apply lm_wA); (first | exact rfl | assumption); omega)
    | ((with_reducible apply lm_wJ); (first | exact rfl | assumption); omega)
    | ((with_reducible apply lm_wB); (first | exact rfl | assumption); omega)
    | ((with_reducible apply lm_sAl); (first | exact rfl | assumption); omega)
    | ((with_reducible apply lm_iW); decide))
    refine lm_cV c3 ?_
    rw [lm_K1, lm_oo]
    exact K
end LMRJ
