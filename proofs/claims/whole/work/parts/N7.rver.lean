/-! ===== dsaVerify of the reference: the hints are read ===== -/
section LMRA
variable {sc : lm_H} {d s : Nat} {m : lm_MI} {n : lm_ML} {x : lm_H × Nat × Nat}
set_option maxRecDepth 100000 in
theorem lm_u101 (hs : s ≤ 2) (h32 : m 203 32 = Int32.ofNat (lm_dk s)) (h47 : m 203 47 = Int32.ofNat (lm_do s)) : ∃ m', (∀ r, (r < 319 ∨ 326 < r) → m' r = m r) ∧ ((lm_cal sc (d + 1) 101 [.ref 203, .ref 211, .int (Int32.ofNat (lm_dsz s + 32 * lm_dw s * lm_dl s))] (lm_w m n x) = some (.ok (some (.int 1)), lm_w m' n x) ∧ lm_ho' (lm_vh (m 211) s) (lm_vc (m 211) s) (lm_do s) (lm_dk s) ∧ ∀ i, i < lm_dk s → ∀ c, c < 256 → lm_b1 (m' (319 + i) c) = lm_z (ln_fl (lm_vh (m 211) s) (lm_pv (lm_vc (m 211) s) i) (lm_vc (m 211) s i - lm_pv (lm_vc (m 211) s) i) c)) ∨ (lm_cal sc (d + 1) 101 [.ref 203, .ref 211, .int (Int32.ofNat (lm_dsz s + 32 * lm_dw s * lm_dl s))] (lm_w m n x) = some (.ok (some (.int 0)), lm_w m' n x) ∧ ¬ lm_ho' (lm_vh (m 211) s) (lm_vc (m 211) s) (lm_do s) (lm_dk s))) := by
  have hkl := lm_dkl hs
  have hpar := lm_dpar s hs
  have hP := lm_vPb hs
  have eH : ∀ j, lm_b8 (m 211 (lm_dsz s + 32 * lm_dw s * lm_dl s + j)) &&& Int32.ofInt 255 = Int32.ofNat (lm_vh (m 211) s j) := fun j => lm_b8u _
  have eC : ∀ i, lm_b8 (m 211 (lm_dsz s + 32 * lm_dw s * lm_dl s + lm_do s + i)) &&& Int32.ofInt 255 = Int32.ofNat (lm_vc (m 211) s i) := fun i => lm_b8u _
  have bH : ∀ j, lm_vh (m 211) s j < 256 := fun j => lm_yb_lt _
  have bC : ∀ i, lm_vc (m 211) s i < 256 := fun i => lm_yb_lt _
  have zH : ∀ j, lm_vh (m 211) s j = 0 ↔ lm_b8 (m 211 (lm_dsz s + 32 * lm_dw s * lm_dl s + j)) = 0 := fun j => by
    constructor
    · intro e
      have : lm_yb (m 211 (lm_dsz s + 32 * lm_dw s * lm_dl s + j)) = lm_yb 0 := e
      rw [lm_b8_eq this]
      decide
    · intro e
      show lm_yb (m 211 (lm_dsz s + 32 * lm_dw s * lm_dl s + j)) = 0
      rw [← lm_yb_b8, e]
      rfl
  generalize lm_vh (m 211) s = hb at *
  generalize lm_vc (m 211) s = cn at *
  generalize eP : lm_dsz s + 32 * lm_dw s * lm_dl s = P at *
  have head : ∀ R, lm_rn sc d lm_m101.2.2.2.2.1 (lm_reg lm_m101.2.2.2.2.2) (5, [(0, .ref 203), (1, .ref 211), (2, .int (Int32.ofNat P)), (3, .int (Int32.ofNat (lm_pv cn 0))), (4, .int (Int32.ofNat 0))], []) (lm_w m n x) = some R → lm_cal sc (d + 1) 101 [.ref 203, .ref 211, .int (Int32.ofNat P)] (lm_w m n x) = some R := by
    intro R K
    refine lm_cal_of (Y := lm_m101) rfl rfl (lm_e101_0 ?_)
    unfold lm_q101_0
    rw [lm_K0]
    exact K
  rcases lm_lpe (sc := sc) (d := d) (b := lm_dk s) (hs := lm_m101.2.2.2.2.1) (code := lm_reg lm_m101.2.2.2.2.2) (x := x) (fr := fun i => (5, [(0, .ref 203), (1, .ref 211), (2, .int (Int32.ofNat P)), (3, .int (Int32.ofNat (lm_pv cn i))), (4, .int (Int32.ofNat i))], [])) (I := fun i m' n' => n' = n ∧ (∀ r, (r < 319 ∨ 326 < r) → m' r = m r) ∧ (∀ i', i' < i → lm_hr hb cn (lm_do s) i') ∧ ∀ i', i' < i → ∀ c, c < 256 → lm_b1 (m' (319 + i') c) = lm_z (ln_fl hb (lm_pv cn i') (cn i' - lm_pv cn i') c)) (E := fun R => ∃ m', R = (.ok (some (.int 0)), lm_w m' n x) ∧ (∀ r, (r < 319 ∨ 326 < r) → m' r = m r) ∧ ¬ ∀ i', i' < lm_dk s → lm_hr hb cn (lm_do s) i') (fun i hi m1 n1 ⟨en, f1, g, w1⟩ => by
    subst en
    have hpv := lm_pv_le g
    have bc := bC i
    have aH := lm_arH i (by omega)
    obtain ⟨m2, n2, ⟨en, f2, z2⟩, k2⟩ := lm_lp (sc := sc) (d := d) (b := 256) (hs := lm_m101.2.2.2.2.1) (code := lm_reg lm_m101.2.2.2.2.2) (x := x) (fr := fun c => (17, [(0, .ref 203), (1, .ref 211), (2, .int (Int32.ofNat P)), (3, .int (Int32.ofNat (lm_pv cn i))), (4, .int (Int32.ofNat i)), (5, .int (Int32.ofNat c))], [])) (I := fun c m' n' => n' = n1 ∧ (∀ r, r ≠ 319 + i → m' r = m1 r) ∧ ∀ c', c' < c → m' (319 + i) c' = Int32.ofInt 0) (fun c hc m2 n2 ⟨en, f2, z2⟩ => by
      refine ⟨lm_u m2 (319 + i) c (Int32.ofInt 0), n2, ⟨en, fun r hr => (lm_u_row hr).trans (f2 r hr), fun c' hc' => ?_⟩, fun R K => lm_e101_17 ?_⟩
      · by_cases c0 : c' = c
        · subst c0; rw [lm_u_eq]
        · rw [lm_u_ne (fun g => c0 g.2)]; exact z2 c' (by omega)
      · unfold lm_q101_17
        rw [lm_K256]
        refine lm_geF (by omega) (by omega) (by omega) ?_
        repeat (first
    | ((with_reducible apply lm_sI); exact rfl)
    | ((with_reducible apply lm_sR); exact rfl)
    | ((with_reducible apply lm_sS); exact rfl; exact rfl)
    | ((with_reducible apply lm_sL); exact rfl)
    | ((with_reducible apply lm_sP); exact rfl; exact rfl)
    | ((with_reducible apply lm_sPL); exact rfl; exact rfl)
    | ((with_reducible apply lm_sAA); exact rfl; exact rfl)
    | ((with_reducible apply lm_sA); (first | exact rfl | assumption); omega)
    | ((with_reducible apply lm_sJ); (first | exact rfl | assumption); omega)
    | ((with_reducible apply lm_sB); (first | exact rfl | assumption); omega)
    | ((with_reducible apply lm_wA); (first | exact rfl | assumption); omega)
    | ((with_reducible apply lm_wJ); (first | exact rfl | assumption); omega)
    | ((with_reducible apply lm_wB); (first | exact rfl | assumption); omega)
    | ((with_reducible apply lm_sAl); (first | exact rfl | assumption); omega)
    | ((with_reducible apply lm_iW); decide))
        refine lm_sAA rfl (lm_roH i (by omega)) ?_
        refine lm_wZ aH hc ?_
        rw [lm_K1, lm_oo]
        exact K) 256 0 (by omega) m1 n1 ⟨rfl, fun _ _ => rfl, fun c' hc' => absurd hc' (by omega)⟩
    subst en
    have e203 : m2 203 = m 203 := by rw [f2 203 (by omega), f1 203 (by omega)]
    have e211 : m2 211 = m 211 := by rw [f2 211 (by omega), f1 211 (by omega)]
    have gi : ∀ (f : Int32 → lm_M lm_R) R, f (Int32.ofNat (lm_do s)) (lm_w m2 n2 x) = some R → lm_bind (lm_gI 4588 203) f (lm_w m2 n2 x) = some R := by
      intro f R K
      repeat (first
    | ((with_reducible apply lm_sI); exact rfl)
    | ((with_reducible apply lm_sR); exact rfl)
    | ((with_reducible apply lm_sS); exact rfl; exact rfl)
    | ((with_reducible apply lm_sL); exact rfl)
    | ((with_reducible apply lm_sP); exact rfl; exact rfl)
    | ((with_reducible apply lm_sPL); exact rfl; exact rfl)
    | ((with_reducible apply lm_sAA); exact rfl; exact rfl)
    | ((with_reducible apply lm_sA); (first | exact rfl | assumption); omega)
    | ((with_reducible apply lm_sJ); (first | exact rfl | assumption); omega)
    | ((with_reducible apply lm_sB); (first | exact rfl | assumption); omega)
    | ((with_reducible apply lm_wA); (first | exact rfl | assumption); omega)
    | ((with_reducible apply lm_wJ); (first | exact rfl | assumption); omega)
    | ((with_reducible apply lm_wB); (first | exact rfl | assumption); omega)
    | ((with_reducible apply lm_sAl); (first | exact rfl | assumption); omega)
    | ((with_reducible apply lm_iW); decide))
      simp only [Nat.reduceDiv, Nat.reduceMod]
      rw [e203, h47]
      exact K
    have pre : ∀ R, lm_if .lt (Int32.ofNat (cn i)) (Int32.ofNat (lm_pv cn i)) (lm_when ((Int32.ofInt 0) = 0 ∨ (Int32.ofInt 0) = 1) inferInstance (lm_ret (some (.int (Int32.ofInt 0))))) (lm_bind (lm_gI 4588 203) fun v3 => lm_if .le (Int32.ofNat (cn i)) v3 (lm_rn sc d lm_m101.2.2.2.2.1 (lm_reg lm_m101.2.2.2.2.2) (79, [(0, .ref 203), (1, .ref 211), (2, .int (Int32.ofNat P)), (3, .int (Int32.ofNat (lm_pv cn i))), (4, .int (Int32.ofNat i)), (5, .int (Int32.ofNat (cn i))), (6, .int (Int32.ofNat (lm_pv cn i + 0)))], [])) (lm_when ((Int32.ofInt 0) = 0 ∨ (Int32.ofInt 0) = 1) inferInstance (lm_ret (some (.int (Int32.ofInt 0)))))) (lm_w m2 n2 x) = some R → lm_rn sc d lm_m101.2.2.2.2.1 (lm_reg lm_m101.2.2.2.2.2) (5, [(0, .ref 203), (1, .ref 211), (2, .int (Int32.ofNat P)), (3, .int (Int32.ofNat (lm_pv cn i))), (4, .int (Int32.ofNat i))], []) (lm_w m1 n2 x) = some R := by
      intro R K
      clear z2 w1
      refine lm_e101_5 ?_
      unfold lm_q101_5
      repeat (first
    | ((with_reducible apply lm_sI); exact rfl)
    | ((with_reducible apply lm_sR); exact rfl)
    | ((with_reducible apply lm_sS); exact rfl; exact rfl)
    | ((with_reducible apply lm_sL); exact rfl)
    | ((with_reducible apply lm_sP); exact rfl; exact rfl)
    | ((with_reducible apply lm_sPL); exact rfl; exact rfl)
    | ((with_reducible apply lm_sAA); exact rfl; exact rfl)
    | ((with_reducible apply lm_sA); (first | exact rfl | assumption); omega)
    | ((with_reducible apply lm_sJ); (first | exact rfl | assumption); omega)
    | ((with_reducible apply lm_sB); (first | exact rfl | assumption); omega)
    | ((with_reducible apply lm_wA); (first | exact rfl | assumption); omega)
    | ((with_reducible apply lm_wJ); (first | exact rfl | assumption); omega)
    | ((with_reducible apply lm_wB); (first | exact rfl | assumption); omega)
    | ((with_reducible apply lm_sAl); (first | exact rfl | assumption); omega)
    | ((with_reducible apply lm_iW); decide))
      simp only [Nat.reduceDiv, Nat.reduceMod]
      rw [f1 203 (by omega), h32]
      refine lm_geF (by omega) (by omega) (by omega) ?_
      rw [lm_K0]
      refine k2 R (lm_e101_17 ?_)
      unfold lm_q101_17
      rw [lm_K256]
      refine lm_geT (by omega) (by omega) (by omega) ?_
      repeat (first
    | ((with_reducible apply lm_sI); exact rfl)
    | ((with_reducible apply lm_sR); exact rfl)
    | ((with_reducible apply lm_sS); exact rfl; exact rfl)
    | ((with_reducible apply lm_sL); exact rfl)
    | ((with_reducible apply lm_sP); exact rfl; exact rfl)
    | ((with_reducible apply lm_sPL); exact rfl; exact rfl)
    | ((with_reducible apply lm_sAA); exact rfl; exact rfl)
    | ((with_reducible apply lm_sA); (first | exact rfl | assumption); omega)
    | ((with_reducible apply lm_sJ); (first | exact rfl | assumption); omega)
    | ((with_reducible apply lm_sB); (first | exact rfl | assumption); omega)
    | ((with_reducible apply lm_wA); (first | exact rfl | assumption); omega)
    | ((with_reducible apply lm_wJ); (first | exact rfl | assumption); omega)
    | ((with_reducible apply lm_wB); (first | exact rfl | assumption); omega)
    | ((with_reducible apply lm_sAl); (first | exact rfl | assumption); omega)
    | ((with_reducible apply lm_iW); decide))
      simp only [Nat.reduceDiv, Nat.reduceMod]
      rw [e203, h47, lm_oo, lm_oo]
      repeat (first
    | ((with_reducible apply lm_sI); exact rfl)
    | ((with_reducible apply lm_sR); exact rfl)
    | ((with_reducible apply lm_sS); exact rfl; exact rfl)
    | ((with_reducible apply lm_sL); exact rfl)
    | ((with_reducible apply lm_sP); exact rfl; exact rfl)
    | ((with_reducible apply lm_sPL); exact rfl; exact rfl)
    | ((with_reducible apply lm_sAA); exact rfl; exact rfl)
    | ((with_reducible apply lm_sA); (first | exact rfl | assumption); omega)
    | ((with_reducible apply lm_sJ); (first | exact rfl | assumption); omega)
    | ((with_reducible apply lm_sB); (first | exact rfl | assumption); omega)
    | ((with_reducible apply lm_wA); (first | exact rfl | assumption); omega)
    | ((with_reducible apply lm_wJ); (first | exact rfl | assumption); omega)
    | ((with_reducible apply lm_wB); (first | exact rfl | assumption); omega)
    | ((with_reducible apply lm_sAl); (first | exact rfl | assumption); omega)
    | ((with_reducible apply lm_iW); decide))
      rw [e211, eC]
      rw [Nat.add_zero] at K
      exact K
    by_cases c1 : cn i < lm_pv cn i
    · refine Or.inr ⟨_, ⟨m2, rfl, fun r hr => by rw [f2 r (by omega), f1 r hr], fun q => ?_⟩, pre _ (lm_ltT (by omega) (by omega) c1 (lm_iW (by decide) rfl))⟩
      have := (q i hi).1
      omega
    · by_cases c2 : cn i ≤ lm_do s
      · rcases lm_lpe (sc := sc) (d := d) (b := cn i - lm_pv cn i) (hs := lm_m101.2.2.2.2.1) (code := lm_reg lm_m101.2.2.2.2.2) (x := x) (fr := fun j => (79, [(0, .ref 203), (1, .ref 211), (2, .int (Int32.ofNat P)), (3, .int (Int32.ofNat (lm_pv cn i))), (4, .int (Int32.ofNat i)), (5, .int (Int32.ofNat (cn i))), (6, .int (Int32.ofNat (lm_pv cn i + j)))], [])) (I := fun j m' n' => n' = n2 ∧ (∀ r, r ≠ 319 + i → m' r = m1 r) ∧ (∀ j', 0 < j' → j' < j → hb (lm_pv cn i + j' - 1) < hb (lm_pv cn i + j')) ∧ ∀ c, c < 256 → lm_b1 (m' (319 + i) c) = lm_z (ln_fl hb (lm_pv cn i) j c)) (E := fun R => ∃ m', R = (.ok (some (.int 0)), lm_w m' n2 x) ∧ (∀ r, r ≠ 319 + i → m' r = m1 r) ∧ ¬ lm_hr hb cn (lm_do s) i) (fun j hj m3 n3 ⟨en, f3, g3, w3⟩ => by
          subst en
          have e211' : m3 211 = m 211 := by rw [f3 211 (by omega), f1 211 (by omega)]
          have b1 := bH (lm_pv cn i + j - 1)
          have b2 := bH (lm_pv cn i + j)
          have st : (j = 0 ∨ hb (lm_pv cn i + j - 1) < hb (lm_pv cn i + j)) → ∃ m' n', (n' = n3 ∧ (∀ r, r ≠ 319 + i → m' r = m1 r) ∧ (∀ j', 0 < j' → j' < j + 1 → hb (lm_pv cn i + j' - 1) < hb (lm_pv cn i + j')) ∧ ∀ c, c < 256 → lm_b1 (m' (319 + i) c) = lm_z (ln_fl hb (lm_pv cn i) (j + 1) c)) ∧ ∀ R, lm_rn sc d lm_m101.2.2.2.2.1 (lm_reg lm_m101.2.2.2.2.2) (79, [(0, .ref 203), (1, .ref 211), (2, .int (Int32.ofNat P)), (3, .int (Int32.ofNat (lm_pv cn i))), (4, .int (Int32.ofNat i)), (5, .int (Int32.ofNat (cn i))), (6, .int (Int32.ofNat (lm_pv cn i + (j + 1))))], []) (lm_w m' n' x) = some R → lm_rn sc d lm_m101.2.2.2.2.1 (lm_reg lm_m101.2.2.2.2.2) (119, [(0, .ref 203), (1, .ref 211), (2, .int (Int32.ofNat P)), (3, .int (Int32.ofNat (lm_pv cn i))), (4, .int (Int32.ofNat i)), (5, .int (Int32.ofNat (cn i))), (6, .int (Int32.ofNat (lm_pv cn i + j)))], []) (lm_w m3 n3 x) = some R := by
            intro hj0
            refine ⟨lm_u m3 (319 + i) (hb (lm_pv cn i + j)) (Int32.ofInt 1), n3, ⟨rfl, fun r hr => by rw [lm_u_row hr, f3 r hr], fun j' j1 j2 => ?_, fun c hc => ?_⟩, fun R K => lm_e101_119 ?_⟩
            · by_cases c0 : j' = j
              · subst c0
                rcases hj0 with q | q
                · omega
                · exact q
              · exact g3 j' j1 (by omega)
            · show _ = lm_z (decide (hb (lm_pv cn i + j) = c) || ln_fl hb (lm_pv cn i) j c)
              by_cases c0 : hb (lm_pv cn i + j) = c
              · subst c0
                rw [lm_u_eq, decide_eq_true rfl, Bool.true_or]
                decide
              · rw [lm_u_ne (fun g => c0 g.2.symm), decide_eq_false c0, Bool.false_or]
                exact w3 c hc
            · clear w3 w1 z2
              unfold lm_q101_119
              repeat (first
    | ((with_reducible apply lm_sI); exact rfl)
    | ((with_reducible apply lm_sR); exact rfl)
    | ((with_reducible apply lm_sS); exact rfl; exact rfl)
    | ((with_reducible apply lm_sL); exact rfl)
    | ((with_reducible apply lm_sP); exact rfl; exact rfl)
    | ((with_reducible apply lm_sPL); exact rfl; exact rfl)
    | ((with_reducible apply lm_sAA); exact rfl; exact rfl)
    | ((with_reducible apply lm_sA); (first | exact rfl | assumption); omega)
    | ((with_reducible apply lm_sJ); (first | exact rfl | assumption); omega)
    | ((with_reducible apply lm_sB); (first | exact rfl | assumption); omega)
    | ((with_reducible apply lm_wA); (first | exact rfl | assumption); omega)
    | ((with_reducible apply lm_wJ); (first | exact rfl | assumption); omega)
    | ((with_reducible apply lm_wB); (first | exact rfl | assumption); omega)
    | ((with_reducible apply lm_sAl); (first | exact rfl | assumption); omega)
    | ((with_reducible apply lm_iW); decide))
              refine lm_sAA rfl (lm_roH i (by omega)) ?_
              rw [lm_oo]
              repeat (first
    | ((with_reducible apply lm_sI); exact rfl)
    | ((with_reducible apply lm_sR); exact rfl)
    | ((with_reducible apply lm_sS); exact rfl; exact rfl)
    | ((with_reducible apply lm_sL); exact rfl)
    | ((with_reducible apply lm_sP); exact rfl; exact rfl)
    | ((with_reducible apply lm_sPL); exact rfl; exact rfl)
    | ((with_reducible apply lm_sAA); exact rfl; exact rfl)
    | ((with_reducible apply lm_sA); (first | exact rfl | assumption); omega)
    | ((with_reducible apply lm_sJ); (first | exact rfl | assumption); omega)
    | ((with_reducible apply lm_sB); (first | exact rfl | assumption); omega)
    | ((with_reducible apply lm_wA); (first | exact rfl | assumption); omega)
    | ((with_reducible apply lm_wJ); (first | exact rfl | assumption); omega)
    | ((with_reducible apply lm_wB); (first | exact rfl | assumption); omega)
    | ((with_reducible apply lm_sAl); (first | exact rfl | assumption); omega)
    | ((with_reducible apply lm_iW); decide))
              rw [e211', eH]
              refine lm_wZ aH b2 ?_
              rw [lm_K1, lm_oo] at *
              exact K
          have pre3 : ∀ R, (lm_if .le (Int32.ofNat (lm_pv cn i + j)) (Int32.ofNat (lm_pv cn i)) (lm_rn sc d lm_m101.2.2.2.2.1 (lm_reg lm_m101.2.2.2.2.2) (119, [(0, .ref 203), (1, .ref 211), (2, .int (Int32.ofNat P)), (3, .int (Int32.ofNat (lm_pv cn i))), (4, .int (Int32.ofNat i)), (5, .int (Int32.ofNat (cn i))), (6, .int (Int32.ofNat (lm_pv cn i + j)))], [])) (lm_bind (lm_bald sc 211 (Int32.ofNat P + Int32.ofNat (lm_pv cn i + j))) fun v1 => lm_bind (lm_bald sc 211 ((Int32.ofNat P + Int32.ofNat (lm_pv cn i + j)) - (Int32.ofInt 1))) fun v2 => lm_if .gt (v1 &&& (Int32.ofInt 255)) (v2 &&& (Int32.ofInt 255)) (lm_rn sc d lm_m101.2.2.2.2.1 (lm_reg lm_m101.2.2.2.2.2) (119, [(0, .ref 203), (1, .ref 211), (2, .int (Int32.ofNat P)), (3, .int (Int32.ofNat (lm_pv cn i))), (4, .int (Int32.ofNat i)), (5, .int (Int32.ofNat (cn i))), (6, .int (Int32.ofNat (lm_pv cn i + j)))], [])) (lm_when ((Int32.ofInt 0) = 0 ∨ (Int32.ofInt 0) = 1) inferInstance (lm_ret (some (.int (Int32.ofInt 0))))))) (lm_w m3 n3 x) = some R → lm_rn sc d lm_m101.2.2.2.2.1 (lm_reg lm_m101.2.2.2.2.2) (79, [(0, .ref 203), (1, .ref 211), (2, .int (Int32.ofNat P)), (3, .int (Int32.ofNat (lm_pv cn i))), (4, .int (Int32.ofNat i)), (5, .int (Int32.ofNat (cn i))), (6, .int (Int32.ofNat (lm_pv cn i + j)))], []) (lm_w m3 n3 x) = some R := by
            intro R K
            refine lm_e101_79 ?_
            unfold lm_q101_79
            refine lm_geF (by omega) (by omega) (by omega) ?_
            exact K
          by_cases c0 : j = 0
          · obtain ⟨m', n', hI, kk⟩ := st (Or.inl c0)
            exact Or.inl ⟨m', n', hI, fun R K => pre3 R (lm_leT (by omega) (by omega) (by omega) (kk R K))⟩
          · have pre4 : ∀ R, lm_if .gt (Int32.ofNat (hb (lm_pv cn i + j))) (Int32.ofNat (hb (lm_pv cn i + j - 1))) (lm_rn sc d lm_m101.2.2.2.2.1 (lm_reg lm_m101.2.2.2.2.2) (119, [(0, .ref 203), (1, .ref 211), (2, .int (Int32.ofNat P)), (3, .int (Int32.ofNat (lm_pv cn i))), (4, .int (Int32.ofNat i)), (5, .int (Int32.ofNat (cn i))), (6, .int (Int32.ofNat (lm_pv cn i + j)))], [])) (lm_when ((Int32.ofInt 0) = 0 ∨ (Int32.ofInt 0) = 1) inferInstance (lm_ret (some (.int (Int32.ofInt 0))))) (lm_w m3 n3 x) = some R → lm_rn sc d lm_m101.2.2.2.2.1 (lm_reg lm_m101.2.2.2.2.2) (79, [(0, .ref 203), (1, .ref 211), (2, .int (Int32.ofNat P)), (3, .int (Int32.ofNat (lm_pv cn i))), (4, .int (Int32.ofNat i)), (5, .int (Int32.ofNat (cn i))), (6, .int (Int32.ofNat (lm_pv cn i + j)))], []) (lm_w m3 n3 x) = some R := by
              intro R K
              clear w3 w1 z2
              refine pre3 R (lm_leF (by omega) (by omega) (by omega) ?_)
              rw [lm_oo, lm_K1, lm_osu (by omega), show P + (lm_pv cn i + j) - 1 = P + (lm_pv cn i + j - 1) by omega]
              repeat (first
    | ((with_reducible apply lm_sI); exact rfl)
    | ((with_reducible apply lm_sR); exact rfl)
    | ((with_reducible apply lm_sS); exact rfl; exact rfl)
    | ((with_reducible apply lm_sL); exact rfl)
    | ((with_reducible apply lm_sP); exact rfl; exact rfl)
    | ((with_reducible apply lm_sPL); exact rfl; exact rfl)
    | ((with_reducible apply lm_sAA); exact rfl; exact rfl)
    | ((with_reducible apply lm_sA); (first | exact rfl | assumption); omega)
    | ((with_reducible apply lm_sJ); (first | exact rfl | assumption); omega)
    | ((with_reducible apply lm_sB); (first | exact rfl | assumption); omega)
    | ((with_reducible apply lm_wA); (first | exact rfl | assumption); omega)
    | ((with_reducible apply lm_wJ); (first | exact rfl | assumption); omega)
    | ((with_reducible apply lm_wB); (first | exact rfl | assumption); omega)
    | ((with_reducible apply lm_sAl); (first | exact rfl | assumption); omega)
    | ((with_reducible apply lm_iW); decide))
              rw [e211', eH, eH]
              exact K
            by_cases c3 : hb (lm_pv cn i + j - 1) < hb (lm_pv cn i + j)
            · obtain ⟨m', n', hI, kk⟩ := st (Or.inr c3)
              exact Or.inl ⟨m', n', hI, fun R K => pre4 R (lm_gtT (by omega) (by omega) c3 (kk R K))⟩
            · exact Or.inr ⟨_, ⟨m3, rfl, f3, fun q => c3 (q.2.2 (lm_pv cn i + j) (by omega) (by omega))⟩, pre4 _ (lm_gtF (by omega) (by omega) c3 (lm_iW (by decide) rfl))⟩) (cn i - lm_pv cn i) 0 (by omega) m2 n2 ⟨rfl, f2, fun j' j1 j2 => absurd j2 (by omega), fun c hc => by rw [z2 c hc]; rfl⟩ with ⟨m3, n3, ⟨en, f3, g3, w3⟩, k3⟩ | ⟨R, ⟨m3, eR, f3, q⟩, k3⟩
        · subst en
          refine Or.inl ⟨m3, n3, ⟨rfl, fun r hr => by rw [f3 r (by omega), f1 r hr], fun i' hi' => ?_, fun i' hi' c hc => ?_⟩, fun R K => pre R (lm_ltF (by omega) (by omega) c1 (gi _ _ (lm_leT (by omega) (by omega) c2 (k3 R (lm_e101_79 ?_)))))⟩
          · by_cases c0 : i' = i
            · subst c0
              refine ⟨by omega, c2, fun j j1 j2 => ?_⟩
              have := g3 (j - lm_pv cn i') (by omega) (by omega)
              rw [show lm_pv cn i' + (j - lm_pv cn i') = j by omega] at this
              exact this
            · exact g i' (by omega)
          · by_cases c0 : i' = i
            · subst c0; exact w3 c hc
            · rw [f3 _ (by omega)]; exact w1 i' (by omega) c hc
          · unfold lm_q101_79
            refine lm_geT (by omega) (by omega) (by omega) ?_
            rw [lm_K1, lm_oo]
            exact K
        · rw [eR] at k3
          exact Or.inr ⟨_, ⟨m3, rfl, fun r hr => by rw [f3 r (by omega), f1 r hr], fun q' => q (q' i hi)⟩, pre _ (lm_ltF (by omega) (by omega) c1 (gi _ _ (lm_leT (by omega) (by omega) c2 k3)))⟩
      · exact Or.inr ⟨_, ⟨m2, rfl, fun r hr => by rw [f2 r (by omega), f1 r hr], fun q => c2 (q i hi).2.1⟩, pre _ (lm_ltF (by omega) (by omega) c1 (gi _ _ (lm_leF (by omega) (by omega) c2 (lm_iW (by decide) rfl))))⟩) (lm_dk s) 0 (by omega) m n ⟨rfl, fun _ _ => rfl, fun i' hi' => absurd hi' (by omega), fun i' hi' => absurd hi' (by omega)⟩ with ⟨m1, n1, ⟨en, f1, g, w1⟩, k1⟩ | ⟨R, ⟨m1, eR, f1, q⟩, k1⟩
  · subst en
    have hpv := lm_pv_le g
    refine ⟨m1, f1, ?_⟩
    have e203 : m1 203 = m 203 := f1 203 (by omega)
    have e211 : m1 211 = m 211 := f1 211 (by omega)
    rcases lm_lpe (sc := sc) (d := d) (b := lm_do s - lm_pv cn (lm_dk s)) (hs := lm_m101.2.2.2.2.1) (code := lm_reg lm_m101.2.2.2.2.2) (x := x) (fr := fun j => (156, [(0, .ref 203), (1, .ref 211), (2, .int (Int32.ofNat P)), (4, .int (Int32.ofNat (lm_pv cn (lm_dk s) + j)))], [])) (I := fun j m' n' => m' = m1 ∧ n' = n1 ∧ ∀ j', j' < j → hb (lm_pv cn (lm_dk s) + j') = 0) (E := fun R => R = (.ok (some (.int 0)), lm_w m1 n1 x) ∧ ¬ ∀ j, lm_pv cn (lm_dk s) ≤ j → j < lm_do s → hb j = 0) (fun j hj m2 n2 ⟨em, en, g2⟩ => by
      subst em
      subst en
      have pre2 : ∀ R, lm_if .eq (lm_b8 (m 211 (P + (lm_pv cn (lm_dk s) + j)))) 0 (lm_rn sc d lm_m101.2.2.2.2.1 (lm_reg lm_m101.2.2.2.2.2) (156, [(0, .ref 203), (1, .ref 211), (2, .int (Int32.ofNat P)), (4, .int (Int32.ofNat (lm_pv cn (lm_dk s) + (j + 1))))], [])) (lm_when ((Int32.ofInt 0) = 0 ∨ (Int32.ofInt 0) = 1) inferInstance (lm_ret (some (.int (Int32.ofInt 0))))) (lm_w m2 n2 x) = some R → lm_rn sc d lm_m101.2.2.2.2.1 (lm_reg lm_m101.2.2.2.2.2) (156, [(0, .ref 203), (1, .ref 211), (2, .int (Int32.ofNat P)), (4, .int (Int32.ofNat (lm_pv cn (lm_dk s) + j)))], []) (lm_w m2 n2 x) = some R := by
        intro R K
        clear w1
        refine lm_e101_156 ?_
        unfold lm_q101_156
        repeat (first
    | ((with_reducible apply lm_sI); exact rfl)
    | ((with_reducible apply lm_sR); exact rfl)
    | ((with_reducible apply lm_sS); exact rfl; exact rfl)
    | ((with_reducible apply lm_sL); exact rfl)
    | ((with_reducible apply lm_sP); exact rfl; exact rfl)
    | ((with_reducible apply lm_sPL); exact rfl; exact rfl)
    | ((with_reducible apply lm_sAA); exact rfl; exact rfl)
    | ((with_reducible apply lm_sA); (first | exact rfl | assumption); omega)
    | ((with_reducible apply lm_sJ); (first | exact rfl | assumption); omega)
    | ((with_reducible apply lm_sB); (first | exact rfl | assumption); omega)
    | ((with_reducible apply lm_wA); (first | exact rfl | assumption); omega)
    | ((with_reducible apply lm_wJ); (first | exact rfl | assumption); omega)
    | ((with_reducible apply lm_wB); (first | exact rfl | assumption); omega)
    | ((with_reducible apply lm_sAl); (first | exact rfl | assumption); omega)
    | ((with_reducible apply lm_iW); decide))
        simp only [Nat.reduceDiv, Nat.reduceMod]
        rw [e203, h47]
        refine lm_geF (by omega) (by omega) (by omega) ?_
        rw [lm_oo]
        repeat (first
    | ((with_reducible apply lm_sI); exact rfl)
    | ((with_reducible apply lm_sR); exact rfl)
    | ((with_reducible apply lm_sS); exact rfl; exact rfl)
    | ((with_reducible apply lm_sL); exact rfl)
    | ((with_reducible apply lm_sP); exact rfl; exact rfl)
    | ((with_reducible apply lm_sPL); exact rfl; exact rfl)
    | ((with_reducible apply lm_sAA); exact rfl; exact rfl)
    | ((with_reducible apply lm_sA); (first | exact rfl | assumption); omega)
    | ((with_reducible apply lm_sJ); (first | exact rfl | assumption); omega)
    | ((with_reducible apply lm_sB); (first | exact rfl | assumption); omega)
    | ((with_reducible apply lm_wA); (first | exact rfl | assumption); omega)
    | ((with_reducible apply lm_wJ); (first | exact rfl | assumption); omega)
    | ((with_reducible apply lm_wB); (first | exact rfl | assumption); omega)
    | ((with_reducible apply lm_sAl); (first | exact rfl | assumption); omega)
    | ((with_reducible apply lm_iW); decide))
        rw [e211, lm_K1, lm_oo]
        exact K
      by_cases c3 : hb (lm_pv cn (lm_dk s) + j) = 0
      · refine Or.inl ⟨m2, n2, ⟨rfl, rfl, fun j' hj' => ?_⟩, fun R K => pre2 R (lm_iT ((zH _).mp c3) K)⟩
        by_cases c0 : j' = j
        · subst c0; exact c3
        · exact g2 j' (by omega)
      · exact Or.inr ⟨_, ⟨rfl, fun q => c3 (q _ (by omega) (by omega))⟩, pre2 _ (lm_iF (fun q => c3 ((zH _).mpr q)) (lm_iW (by decide) rfl))⟩) (lm_do s - lm_pv cn (lm_dk s)) 0 (by omega) m1 n1 ⟨rfl, rfl, fun j' hj' => absurd hj' (by omega)⟩ with ⟨m2, n2, ⟨em, en, g2⟩, k2⟩ | ⟨R, ⟨eR, q⟩, k2⟩
    · subst em
      subst en
      refine Or.inl ⟨head _ (k1 _ (lm_e101_5 ?_)), ⟨g, fun j j1 j2 => ?_⟩, w1⟩
      · clear w1
        unfold lm_q101_5
        repeat (first
    | ((with_reducible apply lm_sI); exact rfl)
    | ((with_reducible apply lm_sR); exact rfl)
    | ((with_reducible apply lm_sS); exact rfl; exact rfl)
    | ((with_reducible apply lm_sL); exact rfl)
    | ((with_reducible apply lm_sP); exact rfl; exact rfl)
    | ((with_reducible apply lm_sPL); exact rfl; exact rfl)
    | ((with_reducible apply lm_sAA); exact rfl; exact rfl)
    | ((with_reducible apply lm_sA); (first | exact rfl | assumption); omega)
    | ((with_reducible apply lm_sJ); (first | exact rfl | assumption); omega)
    | ((with_reducible apply lm_sB); (first | exact rfl | assumption); omega)
    | ((with_reducible apply lm_wA); (first | exact rfl | assumption); omega)
    | ((with_reducible apply lm_wJ); (first | exact rfl | assumption); omega)
    | ((with_reducible apply lm_wB); (first | exact rfl | assumption); omega)
    | ((with_reducible apply lm_sAl); (first | exact rfl | assumption); omega)
    | ((with_reducible apply lm_iW); decide))
        simp only [Nat.reduceDiv, Nat.reduceMod]
        rw [e203, h32]
        refine lm_geT (by omega) (by omega) (by omega) ?_
        refine k2 _ (lm_e101_156 ?_)
        unfold lm_q101_156
        repeat (first
    | ((with_reducible apply lm_sI); exact rfl)
    | ((with_reducible apply lm_sR); exact rfl)
    | ((with_reducible apply lm_sS); exact rfl; exact rfl)
    | ((with_reducible apply lm_sL); exact rfl)
    | ((with_reducible apply lm_sP); exact rfl; exact rfl)
    | ((with_reducible apply lm_sPL); exact rfl; exact rfl)
    | ((with_reducible apply lm_sAA); exact rfl; exact rfl)
    | ((with_reducible apply lm_sA); (first | exact rfl | assumption); omega)
    | ((with_reducible apply lm_sJ); (first | exact rfl | assumption); omega)
    | ((with_reducible apply lm_sB); (first | exact rfl | assumption); omega)
    | ((with_reducible apply lm_wA); (first | exact rfl | assumption); omega)
    | ((with_reducible apply lm_wJ); (first | exact rfl | assumption); omega)
    | ((with_reducible apply lm_wB); (first | exact rfl | assumption); omega)
    | ((with_reducible apply lm_sAl); (first | exact rfl | assumption); omega)
    | ((with_reducible apply lm_iW); decide))
        simp only [Nat.reduceDiv, Nat.reduceMod]
        rw [e203, h47]
        exact lm_geT (by omega) (by omega) (by omega) (lm_iW (by decide) rfl)
      · have := g2 (j - lm_pv cn (lm_dk s)) (by omega)
        rw [show lm_pv cn (lm_dk s) + (j - lm_pv cn (lm_dk s)) = j by omega] at this
        exact this
    · rw [eR] at k2
      refine Or.inr ⟨head _ (k1 _ (lm_e101_5 ?_)), fun q' => q q'.2⟩
      clear w1
      unfold lm_q101_5
      repeat (first
    | ((with_reducible apply lm_sI); exact rfl)
    | ((with_reducible apply lm_sR); exact rfl)
    | ((with_reducible apply lm_sS); exact rfl; exact rfl)
    | ((with_reducible apply lm_sL); exact rfl)
    | ((with_reducible apply lm_sP); exact rfl; exact rfl)
    | ((with_reducible apply lm_sPL); exact rfl; exact rfl)
    | ((with_reducible apply lm_sAA); exact rfl; exact rfl)
    | ((with_reducible apply lm_sA); (first | exact rfl | assumption); omega)
    | ((with_reducible apply lm_sJ); (first | exact rfl | assumption); omega)
    | ((with_reducible apply lm_sB); (first | exact rfl | assumption); omega)
    | ((with_reducible apply lm_wA); (first | exact rfl | assumption); omega)
    | ((with_reducible apply lm_wJ); (first | exact rfl | assumption); omega)
    | ((with_reducible apply lm_wB); (first | exact rfl | assumption); omega)
    | ((with_reducible apply lm_sAl); (first | exact rfl | assumption); omega)
    | ((with_reducible apply lm_iW); decide))
      simp only [Nat.reduceDiv, Nat.reduceMod]
      rw [e203, h32]
      refine lm_geT (by omega) (by omega) (by omega) ?_
      exact k2
  · rw [eR] at k1
    exact ⟨m1, f1, Or.inr ⟨head _ k1, fun q' => q q'.1⟩⟩
end LMRA
