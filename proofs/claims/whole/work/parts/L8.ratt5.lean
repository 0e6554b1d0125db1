/-! ===== an attempt of the reference: all rows' lows and hints ===== -/
section LMSB
variable {sc : lm_H} {C : lm_CX} {d s j : Nat} {m m0 : lm_MI} {n n0 : lm_ML} {x : lm_H × Nat × Nat}
/-- the rows below i are good -/
def lm_Gd (s : Nat) (Rr D : Nat → Nat → Int) (i : Nat) : Prop := (∀ i', i' < i → ∀ c, c < 256 → -((lm_dg2 s - lm_be s : Nat) : Int) < ln_lo (lm_dg2 s) (Rr i' c) ∧ ln_lo (lm_dg2 s) (Rr i' c) < (lm_dg2 s - lm_be s : Nat)) ∧ ∀ i', i' < i → ∀ c, c < 256 → -((lm_dg2 s : Nat) : Int) < D i' c ∧ D i' c < (lm_dg2 s : Nat)
def lm_G1 (s : Nat) (Rr D : Nat → Nat → Int) (i c : Nat) : Prop := lm_Gd s Rr D i ∧ ∀ c', c' < c → -((lm_dg2 s - lm_be s : Nat) : Int) < ln_lo (lm_dg2 s) (Rr i c') ∧ ln_lo (lm_dg2 s) (Rr i c') < (lm_dg2 s - lm_be s : Nat)
def lm_G2 (s : Nat) (Rr D : Nat → Nat → Int) (i c : Nat) : Prop := lm_G1 s Rr D i 256 ∧ ∀ c', c' < c → -((lm_dg2 s : Nat) : Int) < D i c' ∧ D i c' < (lm_dg2 s : Nat)
theorem lm_G1_0 {Rr D : Nat → Nat → Int} {i : Nat} : lm_G1 s Rr D i 0 = lm_Gd s Rr D i := propext ⟨fun g => g.1, fun g => ⟨g, fun c' h => absurd h (by omega)⟩⟩
theorem lm_G1_s {Rr D : Nat → Nat → Int} {i c : Nat} : lm_G1 s Rr D i (c + 1) = (lm_G1 s Rr D i c ∧ (-((lm_dg2 s - lm_be s : Nat) : Int) < ln_lo (lm_dg2 s) (Rr i c) ∧ ln_lo (lm_dg2 s) (Rr i c) < (lm_dg2 s - lm_be s : Nat))) := propext ⟨fun g => ⟨⟨g.1, fun c' h => g.2 c' (by omega)⟩, g.2 c (by omega)⟩, fun g => ⟨g.1.1, fun c' h => by
  by_cases e : c' = c
  · subst e; exact g.2
  · exact g.1.2 c' (by omega)⟩⟩
theorem lm_G2_0 {Rr D : Nat → Nat → Int} {i : Nat} : lm_G2 s Rr D i 0 = lm_G1 s Rr D i 256 := propext ⟨fun g => g.1, fun g => ⟨g, fun c' h => absurd h (by omega)⟩⟩
theorem lm_G2_s {Rr D : Nat → Nat → Int} {i c : Nat} : lm_G2 s Rr D i (c + 1) = (lm_G2 s Rr D i c ∧ (-((lm_dg2 s : Nat) : Int) < D i c ∧ D i c < (lm_dg2 s : Nat))) := propext ⟨fun g => ⟨⟨g.1, fun c' h => g.2 c' (by omega)⟩, g.2 c (by omega)⟩, fun g => ⟨g.1.1, fun c' h => by
  by_cases e : c' = c
  · subst e; exact g.2
  · exact g.1.2 c' (by omega)⟩⟩
theorem lm_G2_e {Rr D : Nat → Nat → Int} {i : Nat} : lm_G2 s Rr D i 256 = lm_Gd s Rr D (i + 1) := propext ⟨fun g => ⟨fun i' hi' c hc => by
    by_cases e : i' = i
    · subst e; exact g.1.2 c hc
    · exact g.1.1.1 i' (by omega) c hc, fun i' hi' c hc => by
    by_cases e : i' = i
    · subst e; exact g.2 c hc
    · exact g.1.1.2 i' (by omega) c hc⟩, fun g => ⟨⟨⟨fun i' hi' c hc => g.1 i' (by omega) c hc, fun i' hi' c hc => g.2 i' (by omega) c hc⟩, fun c hc => g.1 i (by omega) c hc⟩, fun c hc => g.2 i (by omega) c hc⟩⟩
theorem lm_l99k {Bc : Nat → Int} {S T W Rr D : Nat → Nat → Int} {h : Nat → Bool} (hs : s ≤ 2) (h32 : m 203 32 = Int32.ofNat (lm_dk s)) (h42 : m 203 42 = Int32.ofNat (lm_dl s)) (hE : lm_RE s m) (hB : ∀ c, c < 256 → m 316 c = Int32.ofInt (Bc c)) (bB : ∀ c, -1 ≤ Bc c ∧ Bc c ≤ 1) (hS : ∀ i, i < lm_dk s → ∀ c, c < 256 → m (270 + (lm_dl s + i)) c = Int32.ofInt (S (lm_dl s + i) c) ∧ -8380417 ≤ S (lm_dl s + i) c ∧ S (lm_dl s + i) c ≤ 8380417) (hT : ∀ i, i < lm_dk s → ∀ c, c < 256 → m (270 + (15 + i)) c = Int32.ofInt (T i c) ∧ -8380417 ≤ T i c ∧ T i c ≤ 8380417) (hW : ∀ i, i < lm_dk s → ∀ c, c < 256 → m (270 + (30 + i)) c = Int32.ofInt (W i c) ∧ 0 ≤ W i c ∧ W i c < 8380417) (hR : ∀ i c, Rr i c = (W i c - ln_ce (lm_ng Bc (S (lm_dl s + i)) c % 8380417)) % 8380417) (hD : ∀ i c, D i c = ln_ce (lm_ng Bc (T i) c % 8380417)) (hh : h = lm_hf' (lm_dg2 s) Rr D) : ∃ m' n', ((∀ r, r ≠ 317 → (r < 300 ∨ 307 < r) → (r < 319 ∨ 326 < r) → m' r = m r) ∧ (∀ q, q ≠ 230 → n' q = n q) ∧ ∀ i, i < lm_dk s → ∀ c, c < 256 → lm_b1 (m' (319 + i) c) = lm_z (h (256 * i + c))) ∧ ∀ R, lm_rn sc (d + 6) lm_m99.2.2.2.2.1 (lm_reg lm_m99.2.2.2.2.2) (479, [(0, .ref 203), (2, .int (Int32.ofNat (lm_be s))), (3, .int (Int32.ofNat (lm_hs h (256 * lm_dk s)).1)), (4, .int (lm_bz (lm_Gd s Rr D (lm_dk s)))), (5, .int (Int32.ofNat (lm_dk s)))], []) (lm_w m' n' x) = some R → lm_rn sc (d + 6) lm_m99.2.2.2.2.1 (lm_reg lm_m99.2.2.2.2.2) (479, [(0, .ref 203), (2, .int (Int32.ofNat (lm_be s))), (3, .int (Int32.ofNat (lm_hs h (256 * 0)).1)), (4, .int (lm_bz (lm_Gd s Rr D 0))), (5, .int (Int32.ofNat 0))], []) (lm_w m n x) = some R := by
  have hkl := lm_dkl hs
  have hpar := lm_dpar s hs
  obtain ⟨m', n', ⟨g1, g2, g3⟩, k1⟩ := lm_lp (sc := sc) (d := d + 6) (b := lm_dk s) (hs := lm_m99.2.2.2.2.1) (code := lm_reg lm_m99.2.2.2.2.2) (x := x) (fr := fun i => (479, [(0, .ref 203), (2, .int (Int32.ofNat (lm_be s))), (3, .int (Int32.ofNat (lm_hs h (256 * i)).1)), (4, .int (lm_bz (lm_Gd s Rr D i))), (5, .int (Int32.ofNat i))], [])) (I := fun i m' n' => (∀ r, r ≠ 317 → (r < 300 ∨ 300 + i ≤ r) → (r < 319 ∨ 319 + i ≤ r) → m' r = m r) ∧ (∀ q, q ≠ 230 → n' q = n q) ∧ ∀ i', i' < i → ∀ c, c < 256 → lm_b1 (m' (319 + i') c) = lm_z (h (256 * i' + c))) (fun i hi m1 n1 ⟨g1, g2, g3⟩ => by
    have e203 : m1 203 = m 203 := g1 203 (by decide) (by omega) (by omega)
    have E1 : lm_RE s m1 := hE.of fun j _ _ => by rw [e203]
    obtain ⟨m2, n2, c2, p2, q2⟩ := lm_u172 (sc := sc) (d := d + 4) (m := m1) (n := n1) (x := x) (p := 317) (b := 316) (f := 270 + (lm_dl s + i)) (B := Bc) (F := S (lm_dl s + i)) rfl rfl (lm_arY (lm_dl s + i) (by omega)) (fun c hc => by rw [g1 316 (by decide) (by omega) (by omega)]; exact hB c hc) bB (fun c hc => by rw [g1 _ (by omega) (by omega) (by omega)]; exact (hS i hi c hc).1) (fun c hc => (hS i hi c hc).2)
    obtain ⟨m3, a1, a2, k3⟩ := lm_l99i (sc := sc) (d := d) (m := m2) (n := n2) (x := x) (s := s) (i := i) (b := lm_be s) (x3 := Int32.ofNat (lm_hs h (256 * i)).1) (W := W i) (Rr := Rr i) (D := fun c => ln_ce (lm_ng Bc (S (lm_dl s + i)) c % 8380417)) (G := lm_G1 s Rr D i) hs (by omega) (by omega) (by rw [p2.1 203 (by decide)]; exact E1.2.2.1) (fun c hc => by rw [p2.1 _ (by omega), g1 _ (by omega) (by omega) (by omega)]; exact hW i hi c hc) (fun c hc => ⟨p2.2 c hc, lm_ce_b ⟨Int.emod_nonneg _ (by decide), Int.emod_lt_of_pos _ (by decide)⟩⟩) (fun c hc => hR i c) (fun c hc => lm_G1_s)
    obtain ⟨m4, n4, c4, p4, q4⟩ := lm_u172 (sc := sc) (d := d + 4) (m := m3) (n := n2) (x := x) (p := 317) (b := 316) (f := 270 + (15 + i)) (B := Bc) (F := T i) rfl rfl (lm_arY (15 + i) (by omega)) (fun c hc => by rw [a1 316 (by omega), p2.1 316 (by decide), g1 316 (by decide) (by omega) (by omega)]; exact hB c hc) bB (fun c hc => by rw [a1 _ (by omega), p2.1 _ (by omega), g1 _ (by omega) (by omega) (by omega)]; exact (hT i hi c hc).1) (fun c hc => (hT i hi c hc).2)
    have e4 : ∀ r, r ≠ 317 → r ≠ 270 + (30 + i) → m4 r = m1 r := fun r q1 q2' => by rw [p4.1 r q1, a1 r q2', p2.1 r q1]
    have bR : ∀ c, 0 ≤ Rr i c ∧ Rr i c < 8380417 := fun c => by rw [hR i c]; exact ⟨Int.emod_nonneg _ (by decide), Int.emod_lt_of_pos _ (by decide)⟩
    obtain ⟨m5, b1, b2, k5⟩ := lm_l99j (sc := sc) (d := d) (m := m4) (n := n4) (x := x) (s := s) (i := i) (b := lm_be s) (Rr := Rr) (D := D) (h := h) (G := lm_G2 s Rr D i) hs (by omega) (by rw [e4 203 (by decide) (by omega)]; exact E1.2.2.1) (fun c hc => ⟨by rw [p4.1 _ (by omega)]; exact a2 c hc, bR c⟩) (fun c hc => ⟨by rw [p4.2 c hc, hD i c], by rw [hD i c]; exact lm_ce_b ⟨Int.emod_nonneg _ (by decide), Int.emod_lt_of_pos _ (by decide)⟩⟩) hh (fun c hc => lm_G2_s)
    refine ⟨m5, n4, ⟨fun r q1 q2' q3 => by rw [b1 r (by omega), e4 r q1 (by omega), g1 r q1 (by omega) (by omega)], fun q hq => by rw [q4 q hq, q2 q hq, g2 q hq], fun i' hi' c hc => ?_⟩, fun R KK => lm_e99_479 ?_⟩
    · by_cases c0 : i' = i
      · subst c0; exact b2 c hc
      · rw [b1 _ (by omega), e4 _ (by omega) (by omega)]
        exact g3 i' (by omega) c hc
    · clear g3 a2 b2 hB hS hT hW hR hD bR bB hh
      unfold lm_q99_479
      repeat (first
    | ((with_reducible apply lm_sI); exact rfl)
    | ((with_reducible apply lm_sR); exact rfl)
    | ((with_reducible apply lm_sS); exact rfl; exact rfl)
    | ((with_reducible apply lm_sL); exact rfl)
    | ((with_reducible apply lm_sP); exact rfl; exact rfl)
    | ((with_reducible apply lm_sPL); exact rfl; exact rfl)
    | ((with_reducible apply lm_sAA); exact rfl; exact rfl)
    | ((with_reducible apply lm_sA); (first | exact rfl | assumption); omega)
    | ((with_reducible apply lm_sJ); (first | exact rfl | assumption); omega)
    | ((with_reducible apply lm_sB); (first | exact rfl | assumption); omega)
    | ((with_reducible apply lm_wA); (first | exact rfl | assumption); omega)
    | ((with_reducible apply lm_wJ); (first | exact rfl | assumption); omega)
    | ((with_reducible apply lm_wB); (first | exact rfl | assumption); omega)
    | ((with_reducible apply lm_sAl); (first | exact rfl | assumption); omega)
    | ((with_reducible apply lm_iW); decide))
      simp only [Nat.reduceDiv, Nat.reduceMod]
      rw [e203, h32]
      refine lm_geF (by omega) (by omega) (by omega) ?_
      rw [show Int32.ofInt 46 = Int32.ofNat 46 from rfl, show Int32.ofInt 47 = Int32.ofNat 47 from rfl, lm_K0]
      repeat (first
    | ((with_reducible apply lm_sI); exact rfl)
    | ((with_reducible apply lm_sR); exact rfl)
    | ((with_reducible apply lm_sS); exact rfl; exact rfl)
    | ((with_reducible apply lm_sL); exact rfl)
    | ((with_reducible apply lm_sP); exact rfl; exact rfl)
    | ((with_reducible apply lm_sPL); exact rfl; exact rfl)
    | ((with_reducible apply lm_sAA); exact rfl; exact rfl)
    | ((with_reducible apply lm_sA); (first | exact rfl | assumption); omega)
    | ((with_reducible apply lm_sJ); (first | exact rfl | assumption); omega)
    | ((with_reducible apply lm_sB); (first | exact rfl | assumption); omega)
    | ((with_reducible apply lm_wA); (first | exact rfl | assumption); omega)
    | ((with_reducible apply lm_wJ); (first | exact rfl | assumption); omega)
    | ((with_reducible apply lm_wB); (first | exact rfl | assumption); omega)
    | ((with_reducible apply lm_sAl); (first | exact rfl | assumption); omega)
    | ((with_reducible apply lm_iW); decide))
      simp only [Nat.reduceDiv, Nat.reduceMod]
      rw [e203, h42, lm_oo]
      refine lm_sAA rfl (lm_roY (lm_dl s + i) (by omega)) ?_
      repeat (first
    | ((with_reducible apply lm_sI); exact rfl)
    | ((with_reducible apply lm_sR); exact rfl)
    | ((with_reducible apply lm_sS); exact rfl; exact rfl)
    | ((with_reducible apply lm_sL); exact rfl)
    | ((with_reducible apply lm_sP); exact rfl; exact rfl)
    | ((with_reducible apply lm_sPL); exact rfl; exact rfl)
    | ((with_reducible apply lm_sAA); exact rfl; exact rfl)
    | ((with_reducible apply lm_sA); (first | exact rfl | assumption); omega)
    | ((with_reducible apply lm_sJ); (first | exact rfl | assumption); omega)
    | ((with_reducible apply lm_sB); (first | exact rfl | assumption); omega)
    | ((with_reducible apply lm_wA); (first | exact rfl | assumption); omega)
    | ((with_reducible apply lm_wJ); (first | exact rfl | assumption); omega)
    | ((with_reducible apply lm_wB); (first | exact rfl | assumption); omega)
    | ((with_reducible apply lm_sAl); (first | exact rfl | assumption); omega)
    | ((with_reducible apply lm_iW); decide))
      refine lm_cV c2 ?_
      rw [← lm_G1_0]
      refine k3 R (lm_e99_521 ?_)
      unfold lm_q99_521
      rw [lm_K256]
      refine lm_geT (by omega) (by omega) (by omega) ?_
      rw [show Int32.ofInt 46 = Int32.ofNat 46 from rfl, show Int32.ofInt 47 = Int32.ofNat 47 from rfl, show Int32.ofInt 15 = Int32.ofNat 15 from rfl, lm_oo, lm_K0]
      repeat (first
    | ((with_reducible apply lm_sI); exact rfl)
    | ((with_reducible apply lm_sR); exact rfl)
    | ((with_reducible apply lm_sS); exact rfl; exact rfl)
    | ((with_reducible apply lm_sL); exact rfl)
    | ((with_reducible apply lm_sP); exact rfl; exact rfl)
    | ((with_reducible apply lm_sPL); exact rfl; exact rfl)
    | ((with_reducible apply lm_sAA); exact rfl; exact rfl)
    | ((with_reducible apply lm_sA); (first | exact rfl | assumption); omega)
    | ((with_reducible apply lm_sJ); (first | exact rfl | assumption); omega)
    | ((with_reducible apply lm_sB); (first | exact rfl | assumption); omega)
    | ((with_reducible apply lm_wA); (first | exact rfl | assumption); omega)
    | ((with_reducible apply lm_wJ); (first | exact rfl | assumption); omega)
    | ((with_reducible apply lm_wB); (first | exact rfl | assumption); omega)
    | ((with_reducible apply lm_sAl); (first | exact rfl | assumption); omega)
    | ((with_reducible apply lm_iW); decide))
      refine lm_sAA rfl (lm_roY (15 + i) (by omega)) ?_
      repeat (first
    | ((with_reducible apply lm_sI); exact rfl)
    | ((with_reducible apply lm_sR); exact rfl)
    | ((with_reducible apply lm_sS); exact rfl; exact rfl)
    | ((with_reducible apply lm_sL); exact rfl)
    | ((with_reducible apply lm_sP); exact rfl; exact rfl)
    | ((with_reducible apply lm_sPL); exact rfl; exact rfl)
    | ((with_reducible apply lm_sAA); exact rfl; exact rfl)
    | ((with_reducible apply lm_sA); (first | exact rfl | assumption); omega)
    | ((with_reducible apply lm_sJ); (first | exact rfl | assumption); omega)
    | ((with_reducible apply lm_sB); (first | exact rfl | assumption); omega)
    | ((with_reducible apply lm_wA); (first | exact rfl | assumption); omega)
    | ((with_reducible apply lm_wJ); (first | exact rfl | assumption); omega)
    | ((with_reducible apply lm_wB); (first | exact rfl | assumption); omega)
    | ((with_reducible apply lm_sAl); (first | exact rfl | assumption); omega)
    | ((with_reducible apply lm_iW); decide))
      refine lm_cV c4 ?_
      rw [← lm_G2_0]
      refine k5 R (lm_e99_655 ?_)
      unfold lm_q99_655
      rw [lm_K256]
      refine lm_geT (by omega) (by omega) (by omega) ?_
      rw [lm_K1, lm_oo, lm_G2_e, show 256 * i + 256 = 256 * (i + 1) by omega]
      exact KK) (lm_dk s) 0 (by omega) m n ⟨fun _ _ _ _ => rfl, fun _ _ => rfl, fun i' hi' => absurd hi' (by omega)⟩
  exact ⟨m', n', ⟨fun r q1 q2 q3 => g1 r q1 (by omega) (by omega), g2, g3⟩, k1⟩
end LMSB
