/-! ===== kemWrap of the reference ===== -/
section LMRP
variable {sc : lm_H} {C : lm_CX} {d s l : Nat} {m : lm_MI} {n : lm_ML} {x : lm_H × Nat × Nat}
theorem lm_kUe {s : Nat} : lm_kU s = lm_ku s ∧ lm_kV s = lm_kv s ∧ lm_kE s = lm_ke s := ⟨rfl, rfl, rfl⟩
/-- the check of the key's numbers -/
theorem lm_l24a {k : Nat} (hk : m 203 32 = Int32.ofNat k) (hk4 : k ≤ 4) (hT : m 203 24 = Int32.ofNat 0) : ∃ m', (∀ r, r ≠ 203 → m' r = m r) ∧ (∀ j, j ≠ 24 → m' 203 j = m 203 j) ∧ ((lm_kfit (m 207) k ∧ ∀ R, lm_rn sc (d + 3) lm_m24.2.2.2.2.1 (lm_reg lm_m24.2.2.2.2.2) (121, [(0, .ref 203), (2, .int (lm_z true))], []) (lm_w m' n x) = some R → lm_rn sc (d + 3) lm_m24.2.2.2.2.1 (lm_reg lm_m24.2.2.2.2.2) (78, [(0, .ref 203), (2, .int (lm_z true)), (3, .int (Int32.ofNat 0))], []) (lm_w m n x) = some R) ∨ (¬ lm_kfit (m 207) k ∧ ∀ R, lm_rn sc (d + 3) lm_m24.2.2.2.2.1 (lm_reg lm_m24.2.2.2.2.2) (121, [(0, .ref 203), (2, .int (lm_z false))], []) (lm_w m' n x) = some R → lm_rn sc (d + 3) lm_m24.2.2.2.2.1 (lm_reg lm_m24.2.2.2.2.2) (78, [(0, .ref 203), (2, .int (lm_z true)), (3, .int (Int32.ofNat 0))], []) (lm_w m n x) = some R)) := by
  have key : ∀ j i (m1 : lm_MI), i + j = 256 * k → (∀ r, r ≠ 203 → m1 r = m r) → (∀ j, j ≠ 24 → m1 203 j = m 203 j) → m1 203 24 = Int32.ofNat (12 * i) → (∀ i', i' < i → lm_T12 (m 207) 0 (i' / 256) (i' % 256) < 3329) → ∃ m', (∀ r, r ≠ 203 → m' r = m r) ∧ (∀ j, j ≠ 24 → m' 203 j = m 203 j) ∧ (((∀ i', i' < 256 * k → lm_T12 (m 207) 0 (i' / 256) (i' % 256) < 3329) ∧ ∀ R, lm_rn sc (d + 3) lm_m24.2.2.2.2.1 (lm_reg lm_m24.2.2.2.2.2) (121, [(0, .ref 203), (2, .int (lm_z true))], []) (lm_w m' n x) = some R → lm_rn sc (d + 3) lm_m24.2.2.2.2.1 (lm_reg lm_m24.2.2.2.2.2) (78, [(0, .ref 203), (2, .int (lm_z true)), (3, .int (Int32.ofNat i))], []) (lm_w m1 n x) = some R) ∨ ((∃ i', i' < 256 * k ∧ ¬ lm_T12 (m 207) 0 (i' / 256) (i' % 256) < 3329) ∧ ∀ R, lm_rn sc (d + 3) lm_m24.2.2.2.2.1 (lm_reg lm_m24.2.2.2.2.2) (121, [(0, .ref 203), (2, .int (lm_z false))], []) (lm_w m' n x) = some R → lm_rn sc (d + 3) lm_m24.2.2.2.2.1 (lm_reg lm_m24.2.2.2.2.2) (78, [(0, .ref 203), (2, .int (lm_z true)), (3, .int (Int32.ofNat i))], []) (lm_w m1 n x) = some R)) := by
    intro j
    induction j with
    | zero =>
      intro i m1 hi h1 h2 h3 h4
      have e : i = 256 * k := hi
      subst e
      refine ⟨m1, h1, h2, Or.inl ⟨h4, fun R K => lm_e24_78 ?_⟩⟩
      unfold lm_q24_78
      repeat (first
    | ((with_reducible apply lm_sI); exact rfl)
    | ((with_reducible apply lm_sR); exact rfl)
    | ((with_reducible apply lm_sS); exact rfl; exact rfl)
    | ((with_reducible apply lm_sL); exact rfl)
    | ((with_reducible apply lm_sP); exact rfl; exact rfl)
    | ((with_reducible apply lm_sPL); exact rfl; exact rfl)
    | ((with_reducible apply lm_sAA); exact rfl; exact rfl)
    | ((with_reducible apply lm_sA); (first | exact rfl | assumption); omega)
    | ((with_reducible apply lm_sJ); (first | exact rfl | assumption); omega)
    | ((with_reducible apply lm_sB); (first | exact rfl | assumption); omega)
    | ((with_reducible apply lm_wA); (first | exact rfl | assumption); omega)
    | ((with_reducible apply lm_wJ); (first | exact rfl | assumption); omega)
    | ((with_reducible apply lm_wB); (first | exact rfl | assumption); omega)
    | ((with_reducible apply lm_sAl); (first | exact rfl | assumption); omega)
    | ((with_reducible apply lm_iW); decide))
      simp only [Nat.reduceDiv, Nat.reduceMod]
      rw [h2 32 (by decide), hk, lm_K256, lm_om]
      exact lm_geT (by omega) (by omega) (by omega) K
    | succ j ih =>
      intro i m1 hi h1 h2 h3 h4
      have c2 := lm_u77 (sc := sc) (e := d + 1) (m := m1) (n := n) (x := x) (q := 207) (v := 65536) (a := 0) (d := 12) (T := 12 * i) rfl (by decide) h3 (by omega) (by decide) (by decide)
      have hlt := lm_bv_lt (s := ln_bt (fun t => m 207 (0 + t))) (a := 12 * i) (d := 12)
      rw [h1 207 (by decide)] at c2
      have eT : lm_T12 (m 207) 0 (i / 256) (i % 256) = (ln_bv (ln_bt (fun t => m 207 (0 + t))) (12 * i) 12 : Nat) := by
        have := lm_T12_sh (K := m 207) (a := 0) (j := i / 256) (c := i % 256)
        rw [show 3072 * (i / 256) + 12 * (i % 256) = 12 * i by omega] at this
        unfold lm_T12
        rw [this]
      generalize ln_bv (ln_bt (fun t => m 207 (0 + t))) (12 * i) 12 = z at *
      have pre : ∀ R, lm_if .lt (Int32.ofNat z) (Int32.ofInt 3329) (lm_rn sc (d + 3) lm_m24.2.2.2.2.1 (lm_reg lm_m24.2.2.2.2.2) (115, [(0, .ref 203), (2, .int (lm_z true)), (3, .int (Int32.ofNat i))], [])) (lm_rn sc (d + 3) lm_m24.2.2.2.2.1 (lm_reg lm_m24.2.2.2.2.2) (115, [(0, .ref 203), (2, .int (Int32.ofInt 0)), (3, .int (Int32.ofNat i))], [])) (lm_w (lm_u m1 203 24 (Int32.ofNat (12 * i + 12))) n x) = some R → lm_rn sc (d + 3) lm_m24.2.2.2.2.1 (lm_reg lm_m24.2.2.2.2.2) (78, [(0, .ref 203), (2, .int (lm_z true)), (3, .int (Int32.ofNat i))], []) (lm_w m1 n x) = some R := by
        intro R K
        refine lm_e24_78 ?_
        unfold lm_q24_78
        repeat (first
    | ((with_reducible apply lm_sI); exact rfl)
    | ((with_reducible apply lm_sR); exact rfl)
    | ((with_reducible apply lm_sS); exact rfl; exact rfl)
    | ((with_reducible apply lm_sL); exact rfl)
    | ((with_reducible apply lm_sP); exact rfl; exact rfl)
    | ((with_reducible apply lm_sPL); exact rfl; exact rfl)
    | ((with_reducible apply lm_sAA); exact rfl; exact rfl)
    | ((with_reducible apply lm_sA); (first | exact rfl | assumption); omega)
    | ((with_reducible apply lm_sJ); (first | exact rfl | assumption); omega)
    | ((with_reducible apply lm_sB); (first | exact rfl | assumption); omega)
    | ((with_reducible apply lm_wA); (first | exact rfl | assumption); omega)
    | ((with_reducible apply lm_wJ); (first | exact rfl | assumption); omega)
    | ((with_reducible apply lm_wB); (first | exact rfl | assumption); omega)
    | ((with_reducible apply lm_sAl); (first | exact rfl | assumption); omega)
    | ((with_reducible apply lm_iW); decide))
        simp only [Nat.reduceDiv, Nat.reduceMod]
        rw [h2 32 (by decide), hk, lm_K256, lm_om]
        refine lm_geF (by omega) (by omega) (by omega) ?_
        refine lm_iF (show ¬ (1 : Int32) = 0 by decide) ?_
        rw [lm_K1, lm_K0, lm_K12]
        repeat (first
    | ((with_reducible apply lm_sI); exact rfl)
    | ((with_reducible apply lm_sR); exact rfl)
    | ((with_reducible apply lm_sS); exact rfl; exact rfl)
    | ((with_reducible apply lm_sL); exact rfl)
    | ((with_reducible apply lm_sP); exact rfl; exact rfl)
    | ((with_reducible apply lm_sPL); exact rfl; exact rfl)
    | ((with_reducible apply lm_sAA); exact rfl; exact rfl)
    | ((with_reducible apply lm_sA); (first | exact rfl | assumption); omega)
    | ((with_reducible apply lm_sJ); (first | exact rfl | assumption); omega)
    | ((with_reducible apply lm_sB); (first | exact rfl | assumption); omega)
    | ((with_reducible apply lm_wA); (first | exact rfl | assumption); omega)
    | ((with_reducible apply lm_wJ); (first | exact rfl | assumption); omega)
    | ((with_reducible apply lm_wB); (first | exact rfl | assumption); omega)
    | ((with_reducible apply lm_sAl); (first | exact rfl | assumption); omega)
    | ((with_reducible apply lm_iW); decide))
        exact lm_cI c2 K
      have r3 : ∀ r, r ≠ 203 → lm_u m1 203 24 (Int32.ofNat (12 * i + 12)) r = m r := fun r hr => (lm_u_row hr).trans (h1 r hr)
      have g3 : ∀ j, j ≠ 24 → lm_u m1 203 24 (Int32.ofNat (12 * i + 12)) 203 j = m 203 j := fun j hj => (lm_u_ne (fun g => hj g.2)).trans (h2 j hj)
      by_cases c : z < 3329
      · obtain ⟨m', a1, a2, a3⟩ := ih (i + 1) (lm_u m1 203 24 (Int32.ofNat (12 * i + 12))) (by omega) r3 g3 (by rw [lm_u_eq, Nat.mul_succ]) (fun i' hi' => by
          by_cases c0 : i' = i
          · subst c0; rw [eT]; omega
          · exact h4 i' (by omega))
        have nx : ∀ R, lm_rn sc (d + 3) lm_m24.2.2.2.2.1 (lm_reg lm_m24.2.2.2.2.2) (78, [(0, .ref 203), (2, .int (lm_z true)), (3, .int (Int32.ofNat (i + 1)))], []) (lm_w (lm_u m1 203 24 (Int32.ofNat (12 * i + 12))) n x) = some R → lm_rn sc (d + 3) lm_m24.2.2.2.2.1 (lm_reg lm_m24.2.2.2.2.2) (78, [(0, .ref 203), (2, .int (lm_z true)), (3, .int (Int32.ofNat i))], []) (lm_w m1 n x) = some R := by
          intro R K
          refine pre R ?_
          rw [lm_K3329]
          refine lm_ltT (by omega) (by omega) c (lm_e24_115 ?_)
          unfold lm_q24_115
          rw [lm_K1, lm_oo]
          exact K
        refine ⟨m', a1, a2, ?_⟩
        rcases a3 with ⟨b1, b2⟩ | ⟨b1, b2⟩
        · exact Or.inl ⟨b1, fun R K => nx R (b2 R K)⟩
        · exact Or.inr ⟨b1, fun R K => nx R (b2 R K)⟩
      · refine ⟨_, r3, g3, Or.inr ⟨⟨i, by omega, by rw [eT]; omega⟩, fun R K => pre R ?_⟩⟩
        rw [lm_K3329]
        refine lm_ltF (by omega) (by omega) c (lm_e24_115 ?_)
        unfold lm_q24_115
        refine lm_e24_78 ?_
        unfold lm_q24_78
        repeat (first
    | ((with_reducible apply lm_sI); exact rfl)
    | ((with_reducible apply lm_sR); exact rfl)
    | ((with_reducible apply lm_sS); exact rfl; exact rfl)
    | ((with_reducible apply lm_sL); exact rfl)
    | ((with_reducible apply lm_sP); exact rfl; exact rfl)
    | ((with_reducible apply lm_sPL); exact rfl; exact rfl)
    | ((with_reducible apply lm_sAA); exact rfl; exact rfl)
    | ((with_reducible apply lm_sA); (first | exact rfl | assumption); omega)
    | ((with_reducible apply lm_sJ); (first | exact rfl | assumption); omega)
    | ((with_reducible apply lm_sB); (first | exact rfl | assumption); omega)
    | ((with_reducible apply lm_wA); (first | exact rfl | assumption); omega)
    | ((with_reducible apply lm_wJ); (first | exact rfl | assumption); omega)
    | ((with_reducible apply lm_wB); (first | exact rfl | assumption); omega)
    | ((with_reducible apply lm_sAl); (first | exact rfl | assumption); omega)
    | ((with_reducible apply lm_iW); decide))
        simp only [Nat.reduceDiv, Nat.reduceMod]
        rw [lm_u_ne (by decide), h2 32 (by decide), hk, lm_K256, lm_K1, lm_om, lm_oo]
        by_cases c1 : 256 * k ≤ i + 1
        · exact lm_geT (by omega) (by omega) c1 K
        · exact lm_geF (by omega) (by omega) c1 (lm_iT (show Int32.ofInt 0 = 0 by decide) K)
  obtain ⟨m', a1, a2, a3⟩ := key (256 * k) 0 m (by omega) (fun _ _ => rfl) (fun _ _ => rfl) hT (fun i' hi' => absurd hi' (by omega))
  refine ⟨m', a1, a2, ?_⟩
  rcases a3 with ⟨b1, b2⟩ | ⟨⟨i', hi', b1⟩, b2⟩
  · refine Or.inl ⟨fun i c hi hc => ?_, b2⟩
    have := b1 (256 * i + c) (by omega)
    rw [show (256 * i + c) / 256 = i by omega, show (256 * i + c) % 256 = c by omega] at this
    exact this
  · exact Or.inr ⟨fun g => b1 (g _ _ (by omega) (by omega)), b2⟩
end LMRP
