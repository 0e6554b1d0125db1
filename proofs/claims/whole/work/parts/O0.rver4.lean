/-! ===== dsaVerify of the reference: the hints of a row; all rows ===== -/
theorem lm_mq_e {s : Nat} (hs : s ≤ 2) : 8380416 / (2 * lm_dg2 s) = lm_mq s ∧ 2 * lm_dg2 s ≤ 1000000 ∧ 1 ≤ lm_dg2 s := by
  match s, hs with
  | 0, _ => decide
  | 1, _ => decide
  | 2, _ => decide
section LMRD
variable {sc : lm_H} {C : lm_CX} {d s i : Nat} {m : lm_MI} {n : lm_ML} {x : lm_H × Nat × Nat} {K Q : Nat → Int32}
theorem lm_l32f {W : Nat → Int} {b : Nat → Bool} (hs : s ≤ 2) (hi : i < 8) (hE : lm_RE s m) (hW : ∀ c, c < 256 → m (270 + (30 + i)) c = Int32.ofInt (W c) ∧ 0 ≤ W c ∧ W c < 8380417) (hb : ∀ c, c < 256 → lm_b1 (m (319 + i) c) = lm_z (b c)) : ∃ m', ((∀ r, r ≠ 270 + (30 + i) → m' r = m r) ∧ ∀ c, c < 256 → m' (270 + (30 + i)) c = Int32.ofInt (lm_uh (lm_dg2 s) (lm_mq s) (W c) (b c))) ∧ ∀ R, lm_rn sc (d + 7) lm_m32.2.2.2.2.1 (lm_reg lm_m32.2.2.2.2.2) (631, [(0, .ref 203), (4, .int (Int32.ofNat i)), (5, .int (Int32.ofNat (lm_mq s))), (6, .int (Int32.ofNat 256))], []) (lm_w m' n x) = some R → lm_rn sc (d + 7) lm_m32.2.2.2.2.1 (lm_reg lm_m32.2.2.2.2.2) (631, [(0, .ref 203), (4, .int (Int32.ofNat i)), (5, .int (Int32.ofNat (lm_mq s))), (6, .int (Int32.ofNat 0))], []) (lm_w m n x) = some R := by
  have aZ := lm_arY (30 + i) (by omega)
  have aH := lm_arH i hi
  have hmq := lm_mq_b hs
  have hg := lm_g2_2 hs
  obtain ⟨m1, n1, ⟨en, g1, g2, g3⟩, k1⟩ := lm_lp (sc := sc) (d := d + 7) (b := 256) (hs := lm_m32.2.2.2.2.1) (code := lm_reg lm_m32.2.2.2.2.2) (x := x) (fr := fun c => (631, [(0, .ref 203), (4, .int (Int32.ofNat i)), (5, .int (Int32.ofNat (lm_mq s))), (6, .int (Int32.ofNat c))], [])) (I := fun c m' n' => n' = n ∧ (∀ r, r ≠ 270 + (30 + i) → m' r = m r) ∧ (∀ c', c' < c → m' (270 + (30 + i)) c' = Int32.ofInt (lm_uh (lm_dg2 s) (lm_mq s) (W c') (b c'))) ∧ ∀ c', c ≤ c' → m' (270 + (30 + i)) c' = m (270 + (30 + i)) c') (fun c hc m1 n1 ⟨en, g1, g2, g3⟩ => by
    have hw := hW c hc
    have eW : m1 (270 + (30 + i)) c = Int32.ofInt (W c) := by rw [g3 c (by omega)]; exact hw.1
    have h46 : m1 203 46 = Int32.ofNat (lm_dg2 s) := by rw [g1 203 (by omega)]; exact hE.2.2.1
    have eb : lm_b1 (m1 (319 + i) c) = lm_z (b c) := by rw [g1 _ (by omega)]; exact hb c hc
    have uh := lm_u103 (sc := sc) (d := d + 6) (m := m1) (n := n1) (x := x) (r := W c) hs h46 hw.2
    have ul := lm_u104 (sc := sc) (d := d + 6) (m := m1) (n := n1) (x := x) (r := W c) hs h46 hw.2
    have bhi := lm_hi_mq hs hw.2
    have blo := lm_lo_b hg hw.2
    refine ⟨lm_u m1 (270 + (30 + i)) c (Int32.ofInt (lm_uh (lm_dg2 s) (lm_mq s) (W c) (b c))), n1, ⟨en, fun r hr => by rw [lm_u_row hr, g1 r hr], fun c' hc' => ?_, fun c' hc' => ?_⟩, fun R KK => lm_e32_631 ?_⟩
    · by_cases c0 : c' = c
      · subst c0; rw [lm_u_eq]
      · rw [lm_u_ne (fun q => c0 q.2)]; exact g2 c' (by omega)
    · rw [lm_u_ne (by omega)]; exact g3 c' (by omega)
    · clear g2 g3 hW hb
      have e706 : ∀ w, w = Int32.ofInt (lm_uh (lm_dg2 s) (lm_mq s) (W c) (b c)) → lm_rn sc (d + 7) lm_m32.2.2.2.2.1 (lm_reg lm_m32.2.2.2.2.2) (706, [(0, .ref 203), (4, .int (Int32.ofNat i)), (5, .int (Int32.ofNat (lm_mq s))), (6, .int (Int32.ofNat c)), (8, .int w)], []) (lm_w m1 n1 x) = some R := by
        intro w hw'
        subst hw'
        refine lm_e32_706 ?_
        unfold lm_q32_706
        rw [show Int32.ofInt 30 = Int32.ofNat 30 from rfl, lm_oo]
        repeat (first
    | ((with_reducible apply lm_sI); exact rfl)
    | ((with_reducible apply lm_sR); exact rfl)
    | ((with_reducible apply lm_sS); exact rfl; exact rfl)
    | ((with_reducible apply lm_sL); exact rfl)
    | ((with_reducible apply lm_sP); exact rfl; exact rfl)
    | ((with_reducible apply lm_sPL); exact rfl; exact rfl)
    | ((with_reducible apply lm_sAA); exact rfl; exact rfl)
    | ((with_reducible apply lm_sA); (first | exact rfl | assumption); omega)
    | ((with_reducible apply lm_sJ); (first | exact rfl | assumption); omega)
    | ((with_reducible apply lm_sB); (first | exact rfl | assumption); omega)
    | ((with_reducible apply lm_wA); (first | exact rfl | assumption); omega)
    | ((with_reducible apply lm_wJ); (first | exact rfl | assumption); omega)
    | ((with_reducible apply lm_wB); (first | exact rfl | assumption); omega)
    | ((with_reducible apply lm_sAl); (first | exact rfl | assumption); omega)
    | ((with_reducible apply lm_iW); decide))
        refine lm_sAA rfl (lm_roY (30 + i) (by omega)) ?_
        refine lm_wA aZ hc ?_
        rw [lm_K1, lm_oo]
        exact KK
      have e704 : ∀ w, w = Int32.ofInt (lm_uh (lm_dg2 s) (lm_mq s) (W c) (b c)) → lm_rn sc (d + 7) lm_m32.2.2.2.2.1 (lm_reg lm_m32.2.2.2.2.2) (704, [(0, .ref 203), (4, .int (Int32.ofNat i)), (5, .int (Int32.ofNat (lm_mq s))), (6, .int (Int32.ofNat c))], [.int w]) (lm_w m1 n1 x) = some R := by
        intro w hw'
        refine lm_e32_704 ?_
        unfold lm_q32_704
        exact e706 w hw'
      unfold lm_q32_631
      rw [lm_K256]
      refine lm_geF (by omega) (by omega) (by omega) ?_
      rw [show Int32.ofInt 30 = Int32.ofNat 30 from rfl, lm_oo]
      repeat (first
    | ((with_reducible apply lm_sI); exact rfl)
    | ((with_reducible apply lm_sR); exact rfl)
    | ((with_reducible apply lm_sS); exact rfl; exact rfl)
    | ((with_reducible apply lm_sL); exact rfl)
    | ((with_reducible apply lm_sP); exact rfl; exact rfl)
    | ((with_reducible apply lm_sPL); exact rfl; exact rfl)
    | ((with_reducible apply lm_sAA); exact rfl; exact rfl)
    | ((with_reducible apply lm_sA); (first | exact rfl | assumption); omega)
    | ((with_reducible apply lm_sJ); (first | exact rfl | assumption); omega)
    | ((with_reducible apply lm_sB); (first | exact rfl | assumption); omega)
    | ((with_reducible apply lm_wA); (first | exact rfl | assumption); omega)
    | ((with_reducible apply lm_wJ); (first | exact rfl | assumption); omega)
    | ((with_reducible apply lm_wB); (first | exact rfl | assumption); omega)
    | ((with_reducible apply lm_sAl); (first | exact rfl | assumption); omega)
    | ((with_reducible apply lm_iW); decide))
      refine lm_sAA rfl (lm_roY (30 + i) (by omega)) ?_
      refine lm_sA aZ hc ?_
      repeat (first
    | ((with_reducible apply lm_sI); exact rfl)
    | ((with_reducible apply lm_sR); exact rfl)
    | ((with_reducible apply lm_sS); exact rfl; exact rfl)
    | ((with_reducible apply lm_sL); exact rfl)
    | ((with_reducible apply lm_sP); exact rfl; exact rfl)
    | ((with_reducible apply lm_sPL); exact rfl; exact rfl)
    | ((with_reducible apply lm_sAA); exact rfl; exact rfl)
    | ((with_reducible apply lm_sA); (first | exact rfl | assumption); omega)
    | ((with_reducible apply lm_sJ); (first | exact rfl | assumption); omega)
    | ((with_reducible apply lm_sB); (first | exact rfl | assumption); omega)
    | ((with_reducible apply lm_wA); (first | exact rfl | assumption); omega)
    | ((with_reducible apply lm_wJ); (first | exact rfl | assumption); omega)
    | ((with_reducible apply lm_wB); (first | exact rfl | assumption); omega)
    | ((with_reducible apply lm_sAl); (first | exact rfl | assumption); omega)
    | ((with_reducible apply lm_iW); decide))
      rw [eW]
      refine lm_cI uh ?_
      repeat (first
    | ((with_reducible apply lm_sI); exact rfl)
    | ((with_reducible apply lm_sR); exact rfl)
    | ((with_reducible apply lm_sS); exact rfl; exact rfl)
    | ((with_reducible apply lm_sL); exact rfl)
    | ((with_reducible apply lm_sP); exact rfl; exact rfl)
    | ((with_reducible apply lm_sPL); exact rfl; exact rfl)
    | ((with_reducible apply lm_sAA); exact rfl; exact rfl)
    | ((with_reducible apply lm_sA); (first | exact rfl | assumption); omega)
    | ((with_reducible apply lm_sJ); (first | exact rfl | assumption); omega)
    | ((with_reducible apply lm_sB); (first | exact rfl | assumption); omega)
    | ((with_reducible apply lm_wA); (first | exact rfl | assumption); omega)
    | ((with_reducible apply lm_wJ); (first | exact rfl | assumption); omega)
    | ((with_reducible apply lm_wB); (first | exact rfl | assumption); omega)
    | ((with_reducible apply lm_sAl); (first | exact rfl | assumption); omega)
    | ((with_reducible apply lm_iW); decide))
      refine lm_sAA rfl (lm_roH i hi) ?_
      refine lm_sZ aH hc ?_
      rw [eb]
      cases ebc : b c with
      | false =>
        refine lm_iT (show (0 : Int32) = 0 by decide) ?_
        exact e706 _ (by rw [ebc]; rfl)
      | true =>
        refine lm_iF (show ¬ (1 : Int32) = 0 by decide) ?_
        repeat (first
    | ((with_reducible apply lm_sI); exact rfl)
    | ((with_reducible apply lm_sR); exact rfl)
    | ((with_reducible apply lm_sS); exact rfl; exact rfl)
    | ((with_reducible apply lm_sL); exact rfl)
    | ((with_reducible apply lm_sP); exact rfl; exact rfl)
    | ((with_reducible apply lm_sPL); exact rfl; exact rfl)
    | ((with_reducible apply lm_sAA); exact rfl; exact rfl)
    | ((with_reducible apply lm_sA); (first | exact rfl | assumption); omega)
    | ((with_reducible apply lm_sJ); (first | exact rfl | assumption); omega)
    | ((with_reducible apply lm_sB); (first | exact rfl | assumption); omega)
    | ((with_reducible apply lm_wA); (first | exact rfl | assumption); omega)
    | ((with_reducible apply lm_wJ); (first | exact rfl | assumption); omega)
    | ((with_reducible apply lm_wB); (first | exact rfl | assumption); omega)
    | ((with_reducible apply lm_sAl); (first | exact rfl | assumption); omega)
    | ((with_reducible apply lm_iW); decide))
        refine lm_cI ul ?_
        have hz : ¬ Int32.ofNat (lm_mq s) = 0 := fun q => by
          have e := congrArg Int32.toInt q
          rw [lm_oN, lm_iT0 (by omega) (by omega)] at e
          have : ((lm_mq s : Nat) : Int) = 0 := e
          omega
        by_cases cl : ln_lo (lm_dg2 s) (W c) ≤ 0
        · refine lm_zleT (b := 0) (by omega) (by omega) cl ?_
          refine lm_iW hz (e704 _ ?_)
          rw [ebc]
          unfold lm_uh
          rw [if_pos rfl, if_pos cl, lm_oN, lm_iA, lm_iS, lm_iR (by omega) (by omega) (by omega) (by omega), Int.tmod_eq_emod_of_nonneg (by omega), show lm_hi (lm_dg2 s) (W c) + (lm_mq s : Int) - 1 = (lm_hi (lm_dg2 s) (W c) - 1) + lm_mq s by omega, Int.add_emod_right]
        · refine lm_zleF (b := 0) (by omega) (by omega) cl ?_
          refine lm_iW hz (e704 _ ?_)
          rw [ebc]
          unfold lm_uh
          rw [if_pos rfl, if_neg cl, lm_oN, lm_iA, lm_iR (by omega) (by omega) (by omega) (by omega), Int.tmod_eq_emod_of_nonneg (by omega)]) 256 0 (by omega) m n ⟨rfl, fun _ _ => rfl, fun c' hc' => absurd hc' (by omega), fun _ _ => rfl⟩
  subst en
  exact ⟨m1, ⟨g1, g2⟩, k1⟩
/-- the rows -/
def lm_I406 (C : lm_CX) (K Q : Nat → Int32) (s : Nat) (m0 : lm_MI) (n0 : lm_ML) (i : Nat) (m : lm_MI) (n : lm_ML) : Prop := (∀ r, r ≠ 203 → r ≠ 227 → (r < 300 ∨ 307 < r) → r ≠ 315 → r ≠ 317 → m r = m0 r) ∧ ln_fD m0 n0 m n ∧ m 203 4 = 0 ∧ m 203 24 = Int32.ofNat (2560 * i) ∧ (∀ i', i' < i → ∀ t, t < lm_dl s → (lm_xA C K 0 i' t).1 = 256) ∧ ∀ i', i' < i → ∀ c, c < 256 → m (270 + (30 + i')) c = Int32.ofInt (lm_vu C K Q s i' c)
def lm_E406 (C : lm_CX) (K : Nat → Int32) (s : Nat) (m0 : lm_MI) (n0 : lm_ML) (x : lm_H × Nat × Nat) (R : Except Nat lm_R × lm_S) : Prop := ∃ m n, R = (.ok (some (.int 0)), lm_w m n x) ∧ (∀ r, r ≠ 203 → r ≠ 227 → (r < 300 ∨ 307 < r) → r ≠ 315 → r ≠ 317 → m r = m0 r) ∧ ln_fD m0 n0 m n ∧ m 203 4 = Int32.ofInt 4 ∧ ¬ ln_sA C K s
theorem lm_l32g (hs : s ≤ 2) (h : lm_RD C s m n) (hE : lm_RE s m) (h4 : m 203 4 = 0) (h24 : m 203 24 = Int32.ofNat 0) (hK : ∀ u, u < 32 + 320 * lm_dk s → lm_b8 (m 207 u) = lm_b8 (K u)) (hW : ∀ t, t < lm_dl s → ∀ c, c < 256 → m (270 + t) c = Int32.ofInt (ln_pt (fun c => lm_vz Q s t c % 8380417) c % 8380417)) (hB : ∀ c, c < 256 → m 316 c = Int32.ofInt (ln_pt (fun c => (lm_vB C Q s).2 c % 8380417) c % 8380417)) (hb : ∀ i, i < lm_dk s → ∀ c, c < 256 → lm_b1 (m (319 + i) c) = lm_z (ln_fl (lm_vh Q s) (lm_pv (lm_vc Q s) i) (lm_vc Q s i - lm_pv (lm_vc Q s) i) c)) : (∃ m' n', lm_I406 C K Q s m n (lm_dk s) m' n' ∧ ∀ R, lm_rn sc (d + 7) lm_m32.2.2.2.2.1 (lm_reg lm_m32.2.2.2.2.2) (406, [(0, .ref 203), (4, .int (Int32.ofNat (lm_dk s)))], []) (lm_w m' n' x) = some R → lm_rn sc (d + 7) lm_m32.2.2.2.2.1 (lm_reg lm_m32.2.2.2.2.2) (406, [(0, .ref 203), (4, .int (Int32.ofNat 0))], []) (lm_w m n x) = some R) ∨ ∃ R, lm_E406 C K s m n x R ∧ lm_rn sc (d + 7) lm_m32.2.2.2.2.1 (lm_reg lm_m32.2.2.2.2.2) (406, [(0, .ref 203), (4, .int (Int32.ofNat 0))], []) (lm_w m n x) = some R := by
  have hkl := lm_dkl hs
  have hmq := lm_mq_e hs
  have bq : ∀ F : Nat → Int, ∀ c, 0 ≤ ln_pt F c % 8380417 ∧ ln_pt F c % 8380417 ≤ 8380416 := fun F c => ⟨Int.emod_nonneg _ (by decide), lm_le6 (Int.emod_lt_of_pos _ (by decide))⟩
  refine lm_lpe (sc := sc) (d := d + 7) (b := lm_dk s) (hs := lm_m32.2.2.2.2.1) (code := lm_reg lm_m32.2.2.2.2.2) (x := x) (fr := fun i => (406, [(0, .ref 203), (4, .int (Int32.ofNat i))], [])) (I := fun i m' n' => lm_I406 C K Q s m n i m' n') (E := lm_E406 C K s m n x) (fun i hi m1 n1 ⟨g1, g2, g3, g24, g4, g5⟩ => ?_) (lm_dk s) 0 (by omega) m n ⟨fun _ _ _ _ _ _ => rfl, .rf, h4, h24, fun i' hi' => absurd hi' (by omega), fun i' hi' => absurd hi' (by omega)⟩
  have aZ := lm_arY (30 + i) (by omega)
  obtain ⟨m2, ⟨a1, a2, a3, a4⟩, k2⟩ := lm_l32d (sc := sc) (d := d) (m := m1) (n := n1) (x := x) (i := i) (K := K) (by omega) g24 (fun u hu => by rw [g1 207 (by decide) (by decide) (by decide) (by decide) (by decide)]; exact hK u (by omega))
  have D2 : ln_fD m n m2 n1 := g2.tr ⟨fun j _ _ _ _ q => a2 j q, fun _ _ _ _ _ _ _ => rfl⟩
  have e2 : ∀ r, r ≠ 203 → r ≠ 227 → (r < 300 ∨ 307 < r) → r ≠ 315 → r ≠ 317 → m2 r = m r := fun r q1 q2 q3 q4 q5 => by rw [a1 r q1 q4, g1 r q1 q2 q3 q4 q5]
  obtain ⟨m3, n3, c3, p3, q3⟩ := lm_u90 (sc := sc) (d := d + 5) (m := m2) (n := n1) (x := x) (p := 315) (G := fun c => ((lm_vn (ln_v1 K i c) : Nat) : Int)) rfl (fun u hu => by rw [e2 268 (by decide) (by decide) (by decide) (by decide) (by decide)]; exact h.2.2.2.2 u hu) (fun c hc => by have := lm_vn_b (T := ln_v1 K i c); dsimp only; omega) a4
  obtain ⟨m4, c4, p4⟩ := lm_u81 (sc := sc) (d := d + 6) (m := m3) (n := n3) (x := x) (p := 270 + (30 + i)) aZ
  have e4 : ∀ r, r ≠ 203 → r ≠ 227 → (r < 300 ∨ 307 < r) → r ≠ 315 → r ≠ 317 → m4 r = m r := fun r q1 q2 q3' q4 q5 => by rw [p4.1 r (by omega), p3.1 r q4, e2 r q1 q2 q3' q4 q5]
  have e203 : m4 203 = m2 203 := by rw [p4.1 203 (by omega), p3.1 203 (by decide)]
  have D4 : ln_fD m n m4 n3 := D2.tr ⟨fun j _ _ _ _ _ => by rw [e203], fun q _ _ _ _ _ g => q3 q g⟩
  generalize eP : (fun j => ln_pt (fun c => ((lm_vn (ln_v1 K i c) : Nat) : Int)) j % 8380417) = P at *
  generalize eBp : (fun j => ln_pt (fun c => (lm_vB C Q s).2 c % 8380417) j % 8380417) = Bp
  generalize eWW : (fun t j => ln_pt (fun c => lm_vz Q s t c % 8380417) j % 8380417) = WW
  have bP : ∀ c, 0 ≤ P c ∧ P c ≤ 8380416 := fun c => by rw [← eP]; exact bq _ c
  have bB : ∀ c, 0 ≤ Bp c ∧ Bp c ≤ 8380416 := fun c => by rw [← eBp]; exact bq _ c
  have bW : ∀ t c, 0 ≤ WW t c ∧ WW t c ≤ 8380416 := fun t c => by rw [← eWW]; exact bq _ c
  obtain ⟨m5, c5, p5⟩ := lm_u92 (sc := sc) (d := d + 6) (m0 := m4) (m := m4) (n := n3) (x := x) (p := 270 + (30 + i)) (f := 315) (g := 316) (S := fun _ => 0) (F := P) (H := Bp) aZ rfl rfl (by omega) (by omega) ⟨fun _ _ => rfl, fun c hc => p4.2 c hc⟩ (fun c hc => by rw [p4.1 315 (by omega)]; exact p3.2 c hc) (fun c hc => by rw [e4 316 (by decide) (by decide) (by decide) (by decide) (by decide), hB c hc, ← eBp]) (fun c _ => by show -8380416 ≤ (0 : Int) ∧ (0 : Int) ≤ 8380416; decide) (fun c _ => by have := bP c; omega) (fun c _ => by have := bB c; omega)
  have e5 : ∀ r, r ≠ 203 → r ≠ 227 → (r < 300 ∨ 307 < r) → r ≠ 315 → r ≠ 317 → m5 r = m r := fun r q1 q2 q3' q4 q5 => by rw [p5.1 r (by omega), e4 r q1 q2 q3' q4 q5]
  have D5 : ln_fD m n m5 n3 := D4.tr ⟨fun j _ _ _ _ _ => by rw [p5.1 203 (by omega)], fun _ _ _ _ _ _ _ => rfl⟩
  have R5 : lm_RD C s m5 n3 := h.keepD D5 (e5 221 (by decide) (by decide) (by decide) (by decide) (by decide)) (e5 268 (by decide) (by decide) (by decide) (by decide) (by decide))
  have z5 : m5 203 4 = 0 := by rw [p5.1 203 (by omega), e203, a2 4 (by decide)]; exact g3
  have z24 : m5 203 24 = Int32.ofNat (2560 * (i + 1)) := by rw [p5.1 203 (by omega), e203, a3]
  have head : ∀ R, lm_rn sc (d + 7) lm_m32.2.2.2.2.1 (lm_reg lm_m32.2.2.2.2.2) (528, [(0, .ref 203), (4, .int (Int32.ofNat i)), (5, .int (Int32.ofNat 0))], []) (lm_w m5 n3 x) = some R → lm_rn sc (d + 7) lm_m32.2.2.2.2.1 (lm_reg lm_m32.2.2.2.2.2) (406, [(0, .ref 203), (4, .int (Int32.ofNat i))], []) (lm_w m1 n1 x) = some R := by
    intro R KK
    clear g4 g5 a4 hW hB hb eP eBp eWW bP bB bW bq
    refine lm_e32_406 ?_
    unfold lm_q32_406
    repeat (first
    | ((with_reducible apply lm_sI); exact rfl)
    | ((with_reducible apply lm_sR); exact rfl)
    | ((with_reducible apply lm_sS); exact rfl; exact rfl)
    | ((with_reducible apply lm_sL); exact rfl)
    | ((with_reducible apply lm_sP); exact rfl; exact rfl)
    | ((with_reducible apply lm_sPL); exact rfl; exact rfl)
    | ((with_reducible apply lm_sAA); exact rfl; exact rfl)
    | ((with_reducible apply lm_sA); (first | exact rfl | assumption); omega)
    | ((with_reducible apply lm_sJ); (first | exact rfl | assumption); omega)
    | ((with_reducible apply lm_sB); (first | exact rfl | assumption); omega)
    | ((with_reducible apply lm_wA); (first | exact rfl | assumption); omega)
    | ((with_reducible apply lm_wJ); (first | exact rfl | assumption); omega)
    | ((with_reducible apply lm_wB); (first | exact rfl | assumption); omega)
    | ((with_reducible apply lm_sAl); (first | exact rfl | assumption); omega)
    | ((with_reducible apply lm_iW); decide))
    simp only [Nat.reduceDiv, Nat.reduceMod]
    rw [g2.1 32 (by decide) (by decide) (by decide) (by decide) (by decide), h.2.1]
    refine lm_geF (by omega) (by omega) (by omega) ?_
    rw [lm_K0]
    refine k2 R (lm_e32_418 ?_)
    unfold lm_q32_418
    rw [lm_K256]
    refine lm_geT (by omega) (by omega) (by omega) ?_
    rw [show Int32.ofInt 45 = Int32.ofNat 45 from rfl, show Int32.ofInt 46 = Int32.ofNat 46 from rfl, show Int32.ofInt 30 = Int32.ofNat 30 from rfl, lm_oo, lm_K0]
    repeat (first
    | ((with_reducible apply lm_sI); exact rfl)
    | ((with_reducible apply lm_sR); exact rfl)
    | ((with_reducible apply lm_sS); exact rfl; exact rfl)
    | ((with_reducible apply lm_sL); exact rfl)
    | ((with_reducible apply lm_sP); exact rfl; exact rfl)
    | ((with_reducible apply lm_sPL); exact rfl; exact rfl)
    | ((with_reducible apply lm_sAA); exact rfl; exact rfl)
    | ((with_reducible apply lm_sA); (first | exact rfl | assumption); omega)
    | ((with_reducible apply lm_sJ); (first | exact rfl | assumption); omega)
    | ((with_reducible apply lm_sB); (first | exact rfl | assumption); omega)
    | ((with_reducible apply lm_wA); (first | exact rfl | assumption); omega)
    | ((with_reducible apply lm_wJ); (first | exact rfl | assumption); omega)
    | ((with_reducible apply lm_wB); (first | exact rfl | assumption); omega)
    | ((with_reducible apply lm_sAl); (first | exact rfl | assumption); omega)
    | ((with_reducible apply lm_iW); decide))
    refine lm_cV c3 ?_
    repeat (first
    | ((with_reducible apply lm_sI); exact rfl)
    | ((with_reducible apply lm_sR); exact rfl)
    | ((with_reducible apply lm_sS); exact rfl; exact rfl)
    | ((with_reducible apply lm_sL); exact rfl)
    | ((with_reducible apply lm_sP); exact rfl; exact rfl)
    | ((with_reducible apply lm_sPL); exact rfl; exact rfl)
    | ((with_reducible apply lm_sAA); exact rfl; exact rfl)
    | ((with_reducible apply lm_sA); (first | exact rfl | assumption); omega)
    | ((with_reducible apply lm_sJ); (first | exact rfl | assumption); omega)
    | ((with_reducible apply lm_sB); (first | exact rfl | assumption); omega)
    | ((with_reducible apply lm_wA); (first | exact rfl | assumption); omega)
    | ((with_reducible apply lm_wJ); (first | exact rfl | assumption); omega)
    | ((with_reducible apply lm_wB); (first | exact rfl | assumption); omega)
    | ((with_reducible apply lm_sAl); (first | exact rfl | assumption); omega)
    | ((with_reducible apply lm_iW); decide))
    refine lm_sAA rfl (lm_roY (30 + i) (by omega)) ?_
    refine lm_cV c4 ?_
    repeat (first
    | ((with_reducible apply lm_sI); exact rfl)
    | ((with_reducible apply lm_sR); exact rfl)
    | ((with_reducible apply lm_sS); exact rfl; exact rfl)
    | ((with_reducible apply lm_sL); exact rfl)
    | ((with_reducible apply lm_sP); exact rfl; exact rfl)
    | ((with_reducible apply lm_sPL); exact rfl; exact rfl)
    | ((with_reducible apply lm_sAA); exact rfl; exact rfl)
    | ((with_reducible apply lm_sA); (first | exact rfl | assumption); omega)
    | ((with_reducible apply lm_sJ); (first | exact rfl | assumption); omega)
    | ((with_reducible apply lm_sB); (first | exact rfl | assumption); omega)
    | ((with_reducible apply lm_wA); (first | exact rfl | assumption); omega)
    | ((with_reducible apply lm_wJ); (first | exact rfl | assumption); omega)
    | ((with_reducible apply lm_wB); (first | exact rfl | assumption); omega)
    | ((with_reducible apply lm_sAl); (first | exact rfl | assumption); omega)
    | ((with_reducible apply lm_iW); decide))
    refine lm_sAA rfl (lm_roY (30 + i) (by omega)) ?_
    repeat (first
    | ((with_reducible apply lm_sI); exact rfl)
    | ((with_reducible apply lm_sR); exact rfl)
    | ((with_reducible apply lm_sS); exact rfl; exact rfl)
    | ((with_reducible apply lm_sL); exact rfl)
    | ((with_reducible apply lm_sP); exact rfl; exact rfl)
    | ((with_reducible apply lm_sPL); exact rfl; exact rfl)
    | ((with_reducible apply lm_sAA); exact rfl; exact rfl)
    | ((with_reducible apply lm_sA); (first | exact rfl | assumption); omega)
    | ((with_reducible apply lm_sJ); (first | exact rfl | assumption); omega)
    | ((with_reducible apply lm_sB); (first | exact rfl | assumption); omega)
    | ((with_reducible apply lm_wA); (first | exact rfl | assumption); omega)
    | ((with_reducible apply lm_wJ); (first | exact rfl | assumption); omega)
    | ((with_reducible apply lm_wB); (first | exact rfl | assumption); omega)
    | ((with_reducible apply lm_sAl); (first | exact rfl | assumption); omega)
    | ((with_reducible apply lm_iW); decide))
    refine lm_cV c5 ?_
    exact KK
  rcases lm_l32e (sc := sc) (C := C) (d := d) (m := m5) (n := n3) (x := x) (s := s) (i := i) (K := K) (P := P) (Bp := Bp) (W := WW) hs R5 z5 hi (fun u hu => by rw [e5 207 (by decide) (by decide) (by decide) (by decide) (by decide)]; exact hK u (by omega)) (fun t ht c hc => ⟨by rw [e5 _ (by omega) (by omega) (by omega) (by omega) (by omega), hW t ht c hc, ← eWW], bW t c⟩) (fun c hc => p5.2 c hc) with ⟨m6, n6, ⟨b1, b2, b3, b24, b4, b5⟩, k6⟩ | ⟨R, ⟨m6, n6, eR, b1, b2, b3, t, ht, b4⟩, k6⟩
  · have D6 := D5.tr b2
    have R6 : lm_RD C s m6 n6 := R5.keepD b2 (b1 221 (by decide) (by decide) (by omega) (by decide)) (b1 268 (by decide) (by decide) (by omega) (by decide))
    obtain ⟨m7, n7, c7, p7, q7⟩ := lm_u93 (sc := sc) (d := d + 5) (m := m6) (n := n6) (x := x) (p := 270 + (30 + i)) (G := lm_as (ln_cn P (fun t c => lm_xAm C K i t c)) (ln_cn Bp WW) (lm_dl s + 1)) aZ R6.2.2.2.2 (lm_as_rg (l := lm_dl s + 1) (fun t ht c hc => by
      cases t with
      | zero => exact (bP c).1
      | succ t => show 0 ≤ lm_xAm C K i t c; rw [lm_xAm_e]; exact Int.natCast_nonneg _) (fun t ht c hc => by
      cases t with
      | zero => exact (bB c).1
      | succ t => exact (bW t c).1) (lm_dl s + 1) (by omega)) b5
    have eW : ∀ c, c < 256 → m7 (270 + (30 + i)) c = Int32.ofInt (ln_vw C K Q s i c) := fun c hc => by
      rw [p7.2 c hc]
      unfold ln_vw
      refine congrArg Int32.ofInt (lm_vW_as (A := lm_xAm C K) (Z := lm_vz Q s) (B := (lm_vB C Q s).2) (T := ln_v1 K) (fun j hj => ?_) (fun j hj => ?_) (fun t ht j hj => ?_))
      · rw [← eP]
        refine ln_cg.em.tr ?_
        rw [← lm_pt_neg]
        exact lm_pt_cg (fun c _ => lm_vn_cg) j
      · rw [← eBp]
        exact ln_cg.em.tr (lm_pt_cg (fun c _ => ln_cg.em) j)
      · rw [← eWW]
        exact ln_cg.em.tr (lm_pt_cg (fun c _ => ln_cg.em) j)
    have e7 : ∀ r, r ≠ 203 → r ≠ 227 → (r < 300 ∨ 307 < r) → r ≠ 315 → r ≠ 317 → m7 r = m r := fun r q1 q2 q3' q4 q5 => by rw [p7.1 r (by omega), b1 r q1 q2 (by omega) q5, e5 r q1 q2 q3' q4 q5]
    have e7' : m7 203 = m6 203 := p7.1 203 (by omega)
    have D7 : ln_fD m n m7 n7 := D6.tr ⟨fun j _ _ _ _ _ => by rw [e7'], fun q _ _ _ _ _ g => q7 q g⟩
    have E7 : lm_RE s m7 := hE.of fun j a b => D7.1 j (by omega) (by omega) (by omega) (by omega) (by omega)
    obtain ⟨m8, ⟨d1, d2⟩, k8⟩ := lm_l32f (sc := sc) (d := d) (m := m7) (n := n7) (x := x) (s := s) (i := i) (W := fun c => ln_vw C K Q s i c) (b := fun c => ln_fl (lm_vh Q s) (lm_pv (lm_vc Q s) i) (lm_vc Q s i - lm_pv (lm_vc Q s) i) c) hs (by omega) E7 (fun c hc => ⟨eW c hc, ln_vw_b⟩) (fun c hc => by rw [e7 _ (by omega) (by omega) (by omega) (by omega) (by omega)]; exact hb i hi c hc)
    have e8 : m8 203 = m6 203 := by rw [d1 203 (by omega), e7']
    refine Or.inl ⟨m8, n7, ⟨fun r q1 q2 q3' q4 q5 => by rw [d1 r (by omega), e7 r q1 q2 q3' q4 q5], D7.tr ⟨fun j _ _ _ _ _ => by rw [d1 203 (by omega)], fun _ _ _ _ _ _ _ => rfl⟩, by rw [e8]; exact b3, by rw [e8, b24, z24], fun i' hi' t ht => ?_, fun i' hi' c hc => ?_⟩, fun R KK => head R (k6 R (lm_e32_528 ?_))⟩
    · by_cases c0 : i' = i
      · subst c0; exact b4 t ht
      · exact g4 i' (by omega) t ht
    · by_cases c0 : i' = i
      · subst c0; exact d2 c hc
      · rw [d1 _ (by omega), p7.1 _ (by omega), b1 _ (by omega) (by omega) (by omega) (by omega), p5.1 _ (by omega), p4.1 _ (by omega), p3.1 _ (by omega), a1 _ (by omega) (by omega)]
        exact g5 i' (by omega) c hc
    · clear g4 g5 b4 b5 eW d2 hW hB hb a4 eP eBp eWW bP bB bW bq
      unfold lm_q32_528
      repeat (first
    | ((with_reducible apply lm_sI); exact rfl)
    | ((with_reducible apply lm_sR); exact rfl)
    | ((with_reducible apply lm_sS); exact rfl; exact rfl)
    | ((with_reducible apply lm_sL); exact rfl)
    | ((with_reducible apply lm_sP); exact rfl; exact rfl)
    | ((with_reducible apply lm_sPL); exact rfl; exact rfl)
    | ((with_reducible apply lm_sAA); exact rfl; exact rfl)
    | ((with_reducible apply lm_sA); (first | exact rfl | assumption); omega)
    | ((with_reducible apply lm_sJ); (first | exact rfl | assumption); omega)
    | ((with_reducible apply lm_sB); (first | exact rfl | assumption); omega)
    | ((with_reducible apply lm_wA); (first | exact rfl | assumption); omega)
    | ((with_reducible apply lm_wJ); (first | exact rfl | assumption); omega)
    | ((with_reducible apply lm_wB); (first | exact rfl | assumption); omega)
    | ((with_reducible apply lm_sAl); (first | exact rfl | assumption); omega)
    | ((with_reducible apply lm_iW); decide))
      simp only [Nat.reduceDiv, Nat.reduceMod]
      rw [R6.2.2.1]
      refine lm_geT (by omega) (by omega) (by omega) ?_
      rw [show Int32.ofInt 30 = Int32.ofNat 30 from rfl, lm_oo]
      repeat (first
    | ((with_reducible apply lm_sI); exact rfl)
    | ((with_reducible apply lm_sR); exact rfl)
    | ((with_reducible apply lm_sS); exact rfl; exact rfl)
    | ((with_reducible apply lm_sL); exact rfl)
    | ((with_reducible apply lm_sP); exact rfl; exact rfl)
    | ((with_reducible apply lm_sPL); exact rfl; exact rfl)
    | ((with_reducible apply lm_sAA); exact rfl; exact rfl)
    | ((with_reducible apply lm_sA); (first | exact rfl | assumption); omega)
    | ((with_reducible apply lm_sJ); (first | exact rfl | assumption); omega)
    | ((with_reducible apply lm_sB); (first | exact rfl | assumption); omega)
    | ((with_reducible apply lm_wA); (first | exact rfl | assumption); omega)
    | ((with_reducible apply lm_wJ); (first | exact rfl | assumption); omega)
    | ((with_reducible apply lm_wB); (first | exact rfl | assumption); omega)
    | ((with_reducible apply lm_sAl); (first | exact rfl | assumption); omega)
    | ((with_reducible apply lm_iW); decide))
      refine lm_sAA rfl (lm_roY (30 + i) (by omega)) ?_
      repeat (first
    | ((with_reducible apply lm_sI); exact rfl)
    | ((with_reducible apply lm_sR); exact rfl)
    | ((with_reducible apply lm_sS); exact rfl; exact rfl)
    | ((with_reducible apply lm_sL); exact rfl)
    | ((with_reducible apply lm_sP); exact rfl; exact rfl)
    | ((with_reducible apply lm_sPL); exact rfl; exact rfl)
    | ((with_reducible apply lm_sAA); exact rfl; exact rfl)
    | ((with_reducible apply lm_sA); (first | exact rfl | assumption); omega)
    | ((with_reducible apply lm_sJ); (first | exact rfl | assumption); omega)
    | ((with_reducible apply lm_sB); (first | exact rfl | assumption); omega)
    | ((with_reducible apply lm_wA); (first | exact rfl | assumption); omega)
    | ((with_reducible apply lm_wJ); (first | exact rfl | assumption); omega)
    | ((with_reducible apply lm_wB); (first | exact rfl | assumption); omega)
    | ((with_reducible apply lm_sAl); (first | exact rfl | assumption); omega)
    | ((with_reducible apply lm_iW); decide))
      refine lm_cV c7 ?_
      repeat (first
    | ((with_reducible apply lm_sI); exact rfl)
    | ((with_reducible apply lm_sR); exact rfl)
    | ((with_reducible apply lm_sS); exact rfl; exact rfl)
    | ((with_reducible apply lm_sL); exact rfl)
    | ((with_reducible apply lm_sP); exact rfl; exact rfl)
    | ((with_reducible apply lm_sPL); exact rfl; exact rfl)
    | ((with_reducible apply lm_sAA); exact rfl; exact rfl)
    | ((with_reducible apply lm_sA); (first | exact rfl | assumption); omega)
    | ((with_reducible apply lm_sJ); (first | exact rfl | assumption); omega)
    | ((with_reducible apply lm_sB); (first | exact rfl | assumption); omega)
    | ((with_reducible apply lm_wA); (first | exact rfl | assumption); omega)
    | ((with_reducible apply lm_wJ); (first | exact rfl | assumption); omega)
    | ((with_reducible apply lm_wB); (first | exact rfl | assumption); omega)
    | ((with_reducible apply lm_sAl); (first | exact rfl | assumption); omega)
    | ((with_reducible apply lm_iW); decide))
      simp only [Nat.reduceDiv, Nat.reduceMod]
      rw [E7.2.2.1, lm_K2, lm_om, show Int32.ofInt 8380416 = Int32.ofNat 8380416 from rfl, lm_od (by omega) (by omega), hmq.1, lm_K0]
      refine lm_iW (fun q => ?_) ?_
      · have e := congrArg Int32.toInt q
        rw [lm_oN, lm_iT0 (by omega) (by omega)] at e
        have : ((2 * lm_dg2 s : Nat) : Int) = 0 := e
        omega
      refine k8 R (lm_e32_631 ?_)
      unfold lm_q32_631
      rw [lm_K256]
      refine lm_geT (by omega) (by omega) (by omega) ?_
      rw [lm_K1, lm_oo]
      exact KK
  · rw [eR] at k6
    exact Or.inr ⟨_, ⟨m6, n6, rfl, fun r q1 q2 q3' q4 q5 => by rw [b1 r q1 q2 (by omega) q5, e5 r q1 q2 q3' q4 q5], D5.tr b2, b3, fun g => b4 (g i t hi ht)⟩, head _ k6⟩
end LMRD
