/-! ===== dsaSign of the class: lowsAreSmall, makeHints ===== -/
/-- the hints, put down one behind another -/
def lm_hs (h : Nat → Bool) : Nat → Nat × (Nat → Nat)
  | 0 => (0, fun _ => 0)
  | n + 1 => if h n then ((lm_hs h n).1 + 1, fun j => if j = (lm_hs h n).1 then n % 256 else (lm_hs h n).2 j) else lm_hs h n
theorem lm_hs_y {h : Nat → Bool} {n : Nat} (e : h n = true) : lm_hs h (n + 1) = ((lm_hs h n).1 + 1, fun j => if j = (lm_hs h n).1 then n % 256 else (lm_hs h n).2 j) := by
  rw [lm_hs, if_pos e]
theorem lm_hs_n {h : Nat → Bool} {n : Nat} (e : h n = false) : lm_hs h (n + 1) = lm_hs h n := by
  rw [lm_hs, if_neg (by rw [e]; decide)]
theorem lm_hs_m {h : Nat → Bool} {n : Nat} : ∀ j, (lm_hs h n).1 ≤ (lm_hs h (n + j)).1 := by
  intro j
  induction j with
  | zero => exact Nat.le_refl _
  | succ j ih =>
    rw [← Nat.add_assoc]
    cases e : h (n + j) with
    | true => rw [lm_hs_y e]; show _ ≤ (lm_hs h (n + j)).1 + 1; omega
    | false => rw [lm_hs_n e]; exact ih
theorem lm_hs_le {h : Nat → Bool} : ∀ n, (lm_hs h n).1 ≤ n := by
  intro n
  induction n with
  | zero => exact Nat.le_refl _
  | succ n ih =>
    cases e : h n with
    | true => rw [lm_hs_y e]; show (lm_hs h n).1 + 1 ≤ n + 1; omega
    | false => rw [lm_hs_n e]; omega
theorem lm_hs_ext {h h' : Nat → Bool} : ∀ n, (∀ i, i < n → h i = h' i) → lm_hs h n = lm_hs h' n := by
  intro n
  induction n with
  | zero => intro _; rfl
  | succ n ih =>
    intro g
    have e := ih fun i hi => g i (by omega)
    have e1 := g n (by omega)
    cases c : h n with
    | true => rw [lm_hs_y c, lm_hs_y (by rw [← e1]; exact c), e]
    | false => rw [lm_hs_n c, lm_hs_n (by rw [← e1]; exact c), e]
section LMDX
variable {xs : List Int32} {C : lm_CX} {d s : Nat} {m : lm_MI} {n : lm_ML} {x : lm_H × Nat × Nat}
theorem lm_l299 {i b : Nat} {W Rr D : Nat → Int} (hs : s ≤ 2) (h17 : m 76 17 = Int32.ofNat s) (hi : i < 8) (hb : b ≤ 524288) (hW : ∀ c, c < 256 → m (177 + i) c = Int32.ofInt (W c) ∧ 0 ≤ W c ∧ W c < 8380417) (hD : ∀ c, c < 256 → m 186 c = Int32.ofInt (D c) ∧ -4190208 ≤ D c ∧ D c ≤ 4190208) (hR : ∀ c, c < 256 → Rr c = (W c - D c) % 8380417) : (∃ m', (∀ r, r ≠ 177 + i → m' r = m r) ∧ (∀ c, c < 256 → m' (177 + i) c = Int32.ofInt (Rr c)) ∧ (∀ c, c < 256 → -(b : Int) < ln_lo (lm_dg2 s) (Rr c) ∧ ln_lo (lm_dg2 s) (Rr c) < b) ∧ ∀ R, lm_rn (lm_sc xs) (d + 4) lm_m299.2.2.2.2.1 (lm_reg lm_m299.2.2.2.2.2) (41, [(0, .ref 76), (1, .int (Int32.ofNat b)), (2, .int (Int32.ofNat i)), (3, .int (Int32.ofNat 256))], []) (lm_w m' n x) = some R → lm_rn (lm_sc xs) (d + 4) lm_m299.2.2.2.2.1 (lm_reg lm_m299.2.2.2.2.2) (41, [(0, .ref 76), (1, .int (Int32.ofNat b)), (2, .int (Int32.ofNat i)), (3, .int (Int32.ofNat 0))], []) (lm_w m n x) = some R) ∨ ∃ m', (∀ r, r ≠ 177 + i → m' r = m r) ∧ (∃ c, c < 256 ∧ ¬ (-(b : Int) < ln_lo (lm_dg2 s) (Rr c) ∧ ln_lo (lm_dg2 s) (Rr c) < b)) ∧ lm_rn (lm_sc xs) (d + 4) lm_m299.2.2.2.2.1 (lm_reg lm_m299.2.2.2.2.2) (41, [(0, .ref 76), (1, .int (Int32.ofNat b)), (2, .int (Int32.ofNat i)), (3, .int (Int32.ofNat 0))], []) (lm_w m n x) = some (.ok (some (.int 0)), lm_w m' n x) := by
  have aM := lm_arW8 i hi
  have hg := lm_g2_2 hs
  rcases lm_lpe (sc := lm_sc xs) (d := d + 4) (b := 256) (hs := lm_m299.2.2.2.2.1) (code := lm_reg lm_m299.2.2.2.2.2) (x := x) (fr := fun c => (41, [(0, .ref 76), (1, .int (Int32.ofNat b)), (2, .int (Int32.ofNat i)), (3, .int (Int32.ofNat c))], [])) (I := fun c m' n' => n' = n ∧ (∀ r, r ≠ 177 + i → m' r = m r) ∧ (∀ c', c' < c → m' (177 + i) c' = Int32.ofInt (Rr c') ∧ -(b : Int) < ln_lo (lm_dg2 s) (Rr c') ∧ ln_lo (lm_dg2 s) (Rr c') < b) ∧ ∀ c', c ≤ c' → m' (177 + i) c' = m (177 + i) c') (E := fun R => ∃ m', R = (.ok (some (.int 0)), lm_w m' n x) ∧ (∀ r, r ≠ 177 + i → m' r = m r) ∧ ∃ c, c < 256 ∧ ¬ (-(b : Int) < ln_lo (lm_dg2 s) (Rr c) ∧ ln_lo (lm_dg2 s) (Rr c) < b)) (fun c hc m1 n1 ⟨en, g1, g2, g3⟩ => by
    subst en
    have hw := hW c hc
    have hd := hD c hc
    have er := hR c hc
    have br : 0 ≤ Rr c ∧ Rr c < 8380417 := by rw [er]; exact ⟨Int.emod_nonneg _ (by decide), Int.emod_lt_of_pos _ (by decide)⟩
    have bl := lm_lo_b hg br
    have eW : m1 (177 + i) c = Int32.ofInt (W c) := by rw [g3 c (by omega)]; exact hw.1
    have eD : m1 186 c = Int32.ofInt (D c) := by rw [g1 186 (by omega)]; exact hd.1
    have u286 := lm_u286 (sc := lm_sc xs) (d := d + 3) (σ := lm_w m1 n1 x) (a := W c - D c) (q := 8380417) (by omega) (by omega) (by decide) (by decide)
    rw [← er] at u286
    generalize eM : lm_u m1 (177 + i) c (Int32.ofInt (Rr c)) = M
    have rM : ∀ r, r ≠ 177 + i → M r = m1 r := fun r hr => by rw [← eM, lm_u_row hr]
    have u302 := lm_u302 (xs := xs) (d := d + 3) (m := M) (n := n1) (x := x) (r := Rr c) hs (by rw [rM 76 (by omega), g1 76 (by omega)]; exact h17) br
    have u := lm_u253 (sc := lm_sc xs) (d := d + 3) (σ := lm_w M n1 x) (a := ln_lo (lm_dg2 s) (Rr c)) (by omega)
    have pre : ∀ R, lm_if .lt (Int32.ofInt (if 0 ≤ ln_lo (lm_dg2 s) (Rr c) then ln_lo (lm_dg2 s) (Rr c) else -ln_lo (lm_dg2 s) (Rr c))) (Int32.ofInt (b : Int)) (lm_rn (lm_sc xs) (d + 4) lm_m299.2.2.2.2.1 (lm_reg lm_m299.2.2.2.2.2) (41, [(0, .ref 76), (1, .int (Int32.ofNat b)), (2, .int (Int32.ofNat i)), (3, .int (Int32.ofNat c + Int32.ofInt 1))], [])) (lm_when ((Int32.ofInt 0) = 0 ∨ (Int32.ofInt 0) = 1) inferInstance (lm_ret (some (.int (Int32.ofInt 0))))) (lm_w M n1 x) = some R → lm_rn (lm_sc xs) (d + 4) lm_m299.2.2.2.2.1 (lm_reg lm_m299.2.2.2.2.2) (41, [(0, .ref 76), (1, .int (Int32.ofNat b)), (2, .int (Int32.ofNat i)), (3, .int (Int32.ofNat c))], []) (lm_w m1 n1 x) = some R := by
      intro R K
      clear g2 g3 hW hD hR
      refine lm_e299_41 ?_
      unfold lm_q299_41
      rw [lm_K256]
      refine lm_geF (by omega) (by omega) (by omega) ?_
      repeat (first
    | ((with_reducible apply lm_sI); exact rfl)
    | ((with_reducible apply lm_sR); exact rfl)
    | ((with_reducible apply lm_sS); exact rfl; exact rfl)
    | ((with_reducible apply lm_sL); exact rfl)
    | ((with_reducible apply lm_sP); exact rfl; exact rfl)
    | ((with_reducible apply lm_sPL); exact rfl; exact rfl)
    | ((with_reducible apply lm_sAA); exact rfl; exact rfl)
    | ((with_reducible apply lm_sA); (first | exact rfl | assumption); omega)
    | ((with_reducible apply lm_sJ); (first | exact rfl | assumption); omega)
    | ((with_reducible apply lm_sB); (first | exact rfl | assumption); omega)
    | ((with_reducible apply lm_wA); (first | exact rfl | assumption); omega)
    | ((with_reducible apply lm_wJ); (first | exact rfl | assumption); omega)
    | ((with_reducible apply lm_wB); (first | exact rfl | assumption); omega)
    | ((with_reducible apply lm_sAl); (first | exact rfl | assumption); omega)
    | ((with_reducible apply lm_iW); decide))
      refine lm_sAA rfl (lm_roW8 i hi) ?_
      repeat (first
    | ((with_reducible apply lm_sI); exact rfl)
    | ((with_reducible apply lm_sR); exact rfl)
    | ((with_reducible apply lm_sS); exact rfl; exact rfl)
    | ((with_reducible apply lm_sL); exact rfl)
    | ((with_reducible apply lm_sP); exact rfl; exact rfl)
    | ((with_reducible apply lm_sPL); exact rfl; exact rfl)
    | ((with_reducible apply lm_sAA); exact rfl; exact rfl)
    | ((with_reducible apply lm_sA); (first | exact rfl | assumption); omega)
    | ((with_reducible apply lm_sJ); (first | exact rfl | assumption); omega)
    | ((with_reducible apply lm_sB); (first | exact rfl | assumption); omega)
    | ((with_reducible apply lm_wA); (first | exact rfl | assumption); omega)
    | ((with_reducible apply lm_wJ); (first | exact rfl | assumption); omega)
    | ((with_reducible apply lm_wB); (first | exact rfl | assumption); omega)
    | ((with_reducible apply lm_sAl); (first | exact rfl | assumption); omega)
    | ((with_reducible apply lm_iW); decide))
      refine lm_sAA rfl (lm_roW8 i hi) ?_
      repeat (first
    | ((with_reducible apply lm_sI); exact rfl)
    | ((with_reducible apply lm_sR); exact rfl)
    | ((with_reducible apply lm_sS); exact rfl; exact rfl)
    | ((with_reducible apply lm_sL); exact rfl)
    | ((with_reducible apply lm_sP); exact rfl; exact rfl)
    | ((with_reducible apply lm_sPL); exact rfl; exact rfl)
    | ((with_reducible apply lm_sAA); exact rfl; exact rfl)
    | ((with_reducible apply lm_sA); (first | exact rfl | assumption); omega)
    | ((with_reducible apply lm_sJ); (first | exact rfl | assumption); omega)
    | ((with_reducible apply lm_sB); (first | exact rfl | assumption); omega)
    | ((with_reducible apply lm_wA); (first | exact rfl | assumption); omega)
    | ((with_reducible apply lm_wJ); (first | exact rfl | assumption); omega)
    | ((with_reducible apply lm_wB); (first | exact rfl | assumption); omega)
    | ((with_reducible apply lm_sAl); (first | exact rfl | assumption); omega)
    | ((with_reducible apply lm_iW); decide))
      rw [eW, eD, lm_iS]
      refine lm_cI u286 ?_
      repeat (first
    | ((with_reducible apply lm_sI); exact rfl)
    | ((with_reducible apply lm_sR); exact rfl)
    | ((with_reducible apply lm_sS); exact rfl; exact rfl)
    | ((with_reducible apply lm_sL); exact rfl)
    | ((with_reducible apply lm_sP); exact rfl; exact rfl)
    | ((with_reducible apply lm_sPL); exact rfl; exact rfl)
    | ((with_reducible apply lm_sAA); exact rfl; exact rfl)
    | ((with_reducible apply lm_sA); (first | exact rfl | assumption); omega)
    | ((with_reducible apply lm_sJ); (first | exact rfl | assumption); omega)
    | ((with_reducible apply lm_sB); (first | exact rfl | assumption); omega)
    | ((with_reducible apply lm_wA); (first | exact rfl | assumption); omega)
    | ((with_reducible apply lm_wJ); (first | exact rfl | assumption); omega)
    | ((with_reducible apply lm_wB); (first | exact rfl | assumption); omega)
    | ((with_reducible apply lm_sAl); (first | exact rfl | assumption); omega)
    | ((with_reducible apply lm_iW); decide))
      rw [eM]
      repeat (first
    | ((with_reducible apply lm_sI); exact rfl)
    | ((with_reducible apply lm_sR); exact rfl)
    | ((with_reducible apply lm_sS); exact rfl; exact rfl)
    | ((with_reducible apply lm_sL); exact rfl)
    | ((with_reducible apply lm_sP); exact rfl; exact rfl)
    | ((with_reducible apply lm_sPL); exact rfl; exact rfl)
    | ((with_reducible apply lm_sAA); exact rfl; exact rfl)
    | ((with_reducible apply lm_sA); (first | exact rfl | assumption); omega)
    | ((with_reducible apply lm_sJ); (first | exact rfl | assumption); omega)
    | ((with_reducible apply lm_sB); (first | exact rfl | assumption); omega)
    | ((with_reducible apply lm_wA); (first | exact rfl | assumption); omega)
    | ((with_reducible apply lm_wJ); (first | exact rfl | assumption); omega)
    | ((with_reducible apply lm_wB); (first | exact rfl | assumption); omega)
    | ((with_reducible apply lm_sAl); (first | exact rfl | assumption); omega)
    | ((with_reducible apply lm_iW); decide))
      refine lm_sAA rfl (lm_roW8 i hi) ?_
      repeat (first
    | ((with_reducible apply lm_sI); exact rfl)
    | ((with_reducible apply lm_sR); exact rfl)
    | ((with_reducible apply lm_sS); exact rfl; exact rfl)
    | ((with_reducible apply lm_sL); exact rfl)
    | ((with_reducible apply lm_sP); exact rfl; exact rfl)
    | ((with_reducible apply lm_sPL); exact rfl; exact rfl)
    | ((with_reducible apply lm_sAA); exact rfl; exact rfl)
    | ((with_reducible apply lm_sA); (first | exact rfl | assumption); omega)
    | ((with_reducible apply lm_sJ); (first | exact rfl | assumption); omega)
    | ((with_reducible apply lm_sB); (first | exact rfl | assumption); omega)
    | ((with_reducible apply lm_wA); (first | exact rfl | assumption); omega)
    | ((with_reducible apply lm_wJ); (first | exact rfl | assumption); omega)
    | ((with_reducible apply lm_wB); (first | exact rfl | assumption); omega)
    | ((with_reducible apply lm_sAl); (first | exact rfl | assumption); omega)
    | ((with_reducible apply lm_iW); decide))
      rw [show M (177 + i) c = Int32.ofInt (Rr c) by rw [← eM, lm_u_eq]]
      refine lm_cI u302 ?_
      refine lm_cI u ?_
      rw [lm_oN b]
      rw [lm_oN b] at K
      exact K
    by_cases cz : -(b : Int) < ln_lo (lm_dg2 s) (Rr c) ∧ ln_lo (lm_dg2 s) (Rr c) < b
    · refine Or.inl ⟨M, n1, ⟨rfl, fun r hr => by rw [rM r hr, g1 r hr], fun c' hc' => ?_, fun c' hc' => ?_⟩, fun R K => pre R ?_⟩
      · by_cases c0 : c' = c
        · subst c0; rw [← eM, lm_u_eq]; exact ⟨rfl, cz⟩
        · rw [← eM, lm_u_ne (fun g => c0 g.2)]; exact g2 c' (by omega)
      · rw [← eM, lm_u_ne (by omega)]; exact g3 c' (by omega)
      · refine lm_zltT (by split <;> omega) (by omega) (lm_abs_lt.mpr cz) ?_
        rw [lm_K1, lm_oo]
        exact K
    · refine Or.inr ⟨_, ⟨M, rfl, fun r hr => by rw [rM r hr, g1 r hr], c, hc, cz⟩, pre _ ?_⟩
      refine lm_zltF (by split <;> omega) (by omega) (fun g => cz (lm_abs_lt.mp g)) ?_
      exact lm_iW (by decide) rfl) 256 0 (by omega) m n ⟨rfl, fun _ _ => rfl, fun c' hc' => absurd hc' (by omega), fun _ _ => rfl⟩ with ⟨m', n', ⟨en, g1, g2, g3⟩, k1⟩ | ⟨R, ⟨m', eR, g1, g2⟩, k1⟩
  · subst en
    exact Or.inl ⟨m', g1, fun c hc => (g2 c hc).1, fun c hc => (g2 c hc).2, k1⟩
  · rw [eR] at k1
    exact Or.inr ⟨m', g1, g2, k1⟩
/-- lowsAreSmall -/
theorem lm_u299 {W Rr : Nat → Nat → Int} {Bc : Nat → Int} {S : Nat → Nat → Int} (hs : s ≤ 2) (h : lm_DC m s) (hz : ∀ k, k < 256 → m 77 k = Int32.ofInt (lm_zd k)) (hW : ∀ i, i < lm_dk s → ∀ c, c < 256 → m (177 + i) c = Int32.ofInt (W i c) ∧ 0 ≤ W i c ∧ W i c < 8380417) (hB : lm_pts m 185 Bc) (hS : ∀ i, i < lm_dk s → lm_pts m (136 + (lm_dl s + i)) (S (lm_dl s + i))) (hR : ∀ i c, Rr i c = (W i c - ln_ce (lm_ng Bc (S (lm_dl s + i)) c % 8380417)) % 8380417) : (∃ m', lm_cal (lm_sc xs) (d + 5) 299 [.ref 76] (lm_w m n x) = some (.ok (some (.int 1)), lm_w m' n x) ∧ (∀ r, (r < 177 ∨ 184 < r) → r ≠ 186 → m' r = m r) ∧ ∀ i, i < lm_dk s → ∀ c, c < 256 → m' (177 + i) c = Int32.ofInt (Rr i c) ∧ -((lm_dg2 s - lm_be s : Nat) : Int) < ln_lo (lm_dg2 s) (Rr i c) ∧ ln_lo (lm_dg2 s) (Rr i c) < (lm_dg2 s - lm_be s : Nat)) ∨ ∃ m', lm_cal (lm_sc xs) (d + 5) 299 [.ref 76] (lm_w m n x) = some (.ok (some (.int 0)), lm_w m' n x) ∧ (∀ r, (r < 177 ∨ 184 < r) → r ≠ 186 → m' r = m r) ∧ ∃ i c, i < lm_dk s ∧ c < 256 ∧ ¬ (-((lm_dg2 s - lm_be s : Nat) : Int) < ln_lo (lm_dg2 s) (Rr i c) ∧ ln_lo (lm_dg2 s) (Rr i c) < (lm_dg2 s - lm_be s : Nat)) := by
  have hkl := lm_dkl hs
  have hpar := lm_dpar s hs
  have hg := lm_g2_2 hs
  have head : ∀ R, lm_rn (lm_sc xs) (d + 4) lm_m299.2.2.2.2.1 (lm_reg lm_m299.2.2.2.2.2) (16, [(0, .ref 76), (1, .int (Int32.ofNat (lm_dg2 s - lm_be s))), (2, .int (Int32.ofNat 0))], []) (lm_w m n x) = some R → lm_cal (lm_sc xs) (d + 5) 299 [.ref 76] (lm_w m n x) = some R := by
    intro R K
    refine lm_cal_of (Y := lm_m299) rfl rfl (lm_e299_0 ?_)
    unfold lm_q299_0
    repeat (first
    | ((with_reducible apply lm_sI); exact rfl)
    | ((with_reducible apply lm_sR); exact rfl)
    | ((with_reducible apply lm_sS); exact rfl; exact rfl)
    | ((with_reducible apply lm_sL); exact rfl)
    | ((with_reducible apply lm_sP); exact rfl; exact rfl)
    | ((with_reducible apply lm_sPL); exact rfl; exact rfl)
    | ((with_reducible apply lm_sAA); exact rfl; exact rfl)
    | ((with_reducible apply lm_sA); (first | exact rfl | assumption); omega)
    | ((with_reducible apply lm_sJ); (first | exact rfl | assumption); omega)
    | ((with_reducible apply lm_sB); (first | exact rfl | assumption); omega)
    | ((with_reducible apply lm_wA); (first | exact rfl | assumption); omega)
    | ((with_reducible apply lm_wJ); (first | exact rfl | assumption); omega)
    | ((with_reducible apply lm_wB); (first | exact rfl | assumption); omega)
    | ((with_reducible apply lm_sAl); (first | exact rfl | assumption); omega)
    | ((with_reducible apply lm_iW); decide))
    simp only [Nat.reduceDiv, Nat.reduceMod]
    rw [h.1]
    refine ln_tb12 hs ?_
    repeat (first
    | ((with_reducible apply lm_sI); exact rfl)
    | ((with_reducible apply lm_sR); exact rfl)
    | ((with_reducible apply lm_sS); exact rfl; exact rfl)
    | ((with_reducible apply lm_sL); exact rfl)
    | ((with_reducible apply lm_sP); exact rfl; exact rfl)
    | ((with_reducible apply lm_sPL); exact rfl; exact rfl)
    | ((with_reducible apply lm_sAA); exact rfl; exact rfl)
    | ((with_reducible apply lm_sA); (first | exact rfl | assumption); omega)
    | ((with_reducible apply lm_sJ); (first | exact rfl | assumption); omega)
    | ((with_reducible apply lm_sB); (first | exact rfl | assumption); omega)
    | ((with_reducible apply lm_wA); (first | exact rfl | assumption); omega)
    | ((with_reducible apply lm_wJ); (first | exact rfl | assumption); omega)
    | ((with_reducible apply lm_wB); (first | exact rfl | assumption); omega)
    | ((with_reducible apply lm_sAl); (first | exact rfl | assumption); omega)
    | ((with_reducible apply lm_iW); decide))
    refine lm_cI (lm_u250 (d := d + 3) hs h.1) ?_
    rw [lm_osu (by omega), lm_K0]
    exact K
  rcases lm_lpe (sc := lm_sc xs) (d := d + 4) (b := lm_dk s) (hs := lm_m299.2.2.2.2.1) (code := lm_reg lm_m299.2.2.2.2.2) (x := x) (fr := fun i => (16, [(0, .ref 76), (1, .int (Int32.ofNat (lm_dg2 s - lm_be s))), (2, .int (Int32.ofNat i))], [])) (I := fun i m' n' => n' = n ∧ (∀ r, (r < 177 ∨ 177 + i ≤ r) → r ≠ 186 → m' r = m r) ∧ ∀ i', i' < i → ∀ c, c < 256 → m' (177 + i') c = Int32.ofInt (Rr i' c) ∧ -((lm_dg2 s - lm_be s : Nat) : Int) < ln_lo (lm_dg2 s) (Rr i' c) ∧ ln_lo (lm_dg2 s) (Rr i' c) < (lm_dg2 s - lm_be s : Nat)) (E := fun R => ∃ m', R = (.ok (some (.int 0)), lm_w m' n x) ∧ (∀ r, (r < 177 ∨ 184 < r) → r ≠ 186 → m' r = m r) ∧ ∃ i c, i < lm_dk s ∧ c < 256 ∧ ¬ (-((lm_dg2 s - lm_be s : Nat) : Int) < ln_lo (lm_dg2 s) (Rr i c) ∧ ln_lo (lm_dg2 s) (Rr i c) < (lm_dg2 s - lm_be s : Nat))) (fun i hi m1 n1 ⟨en, g1, g2⟩ => by
    subst en
    have e76 : m1 76 = m 76 := g1 76 (by omega) (by decide)
    have p185 : ∀ c, c < 256 → m1 185 c = Int32.ofInt ((m 185 c).toInt) := fun c hc => by rw [g1 185 (by omega) (by decide), Int32.ofInt_toInt]
    obtain ⟨m2, c2, p2⟩ := lm_u309 (sc := lm_sc xs) (d := d + 1) (m := m1) (n := n1) (x := x) (p := 136 + (lm_dl s + i)) (B := Bc) (F := S (lm_dl s + i)) (X := fun c => (m 185 c).toInt) (Y := fun c => (m (136 + (lm_dl s + i)) c).toInt) (fun k hk => by rw [g1 77 (by omega) (by decide)]; exact hz k hk) (lm_arS (lm_dl s + i) (by omega)) (by omega) p185 (fun c hc => by rw [g1 _ (by omega) (by omega), Int32.ofInt_toInt]) (fun c hc => (hB c hc).2) (fun c hc => (hS i hi c hc).2) (fun c hc => (hB c hc).1) (fun c hc => (hS i hi c hc).1)
    have run : ∀ R, lm_rn (lm_sc xs) (d + 4) lm_m299.2.2.2.2.1 (lm_reg lm_m299.2.2.2.2.2) (41, [(0, .ref 76), (1, .int (Int32.ofNat (lm_dg2 s - lm_be s))), (2, .int (Int32.ofNat i)), (3, .int (Int32.ofNat 0))], []) (lm_w m2 n1 x) = some R → lm_rn (lm_sc xs) (d + 4) lm_m299.2.2.2.2.1 (lm_reg lm_m299.2.2.2.2.2) (16, [(0, .ref 76), (1, .int (Int32.ofNat (lm_dg2 s - lm_be s))), (2, .int (Int32.ofNat i))], []) (lm_w m1 n1 x) = some R := by
      intro R K
      clear g2 hB hS hW hR
      refine lm_e299_16 ?_
      unfold lm_q299_16
      repeat (first
    | ((with_reducible apply lm_sI); exact rfl)
    | ((with_reducible apply lm_sR); exact rfl)
    | ((with_reducible apply lm_sS); exact rfl; exact rfl)
    | ((with_reducible apply lm_sL); exact rfl)
    | ((with_reducible apply lm_sP); exact rfl; exact rfl)
    | ((with_reducible apply lm_sPL); exact rfl; exact rfl)
    | ((with_reducible apply lm_sAA); exact rfl; exact rfl)
    | ((with_reducible apply lm_sA); (first | exact rfl | assumption); omega)
    | ((with_reducible apply lm_sJ); (first | exact rfl | assumption); omega)
    | ((with_reducible apply lm_sB); (first | exact rfl | assumption); omega)
    | ((with_reducible apply lm_wA); (first | exact rfl | assumption); omega)
    | ((with_reducible apply lm_wJ); (first | exact rfl | assumption); omega)
    | ((with_reducible apply lm_wB); (first | exact rfl | assumption); omega)
    | ((with_reducible apply lm_sAl); (first | exact rfl | assumption); omega)
    | ((with_reducible apply lm_iW); decide))
      simp only [Nat.reduceDiv, Nat.reduceMod]
      rw [e76, h.2.1]
      refine lm_geF (by omega) (by omega) (by omega) ?_
      repeat (first
    | ((with_reducible apply lm_sI); exact rfl)
    | ((with_reducible apply lm_sR); exact rfl)
    | ((with_reducible apply lm_sS); exact rfl; exact rfl)
    | ((with_reducible apply lm_sL); exact rfl)
    | ((with_reducible apply lm_sP); exact rfl; exact rfl)
    | ((with_reducible apply lm_sPL); exact rfl; exact rfl)
    | ((with_reducible apply lm_sAA); exact rfl; exact rfl)
    | ((with_reducible apply lm_sA); (first | exact rfl | assumption); omega)
    | ((with_reducible apply lm_sJ); (first | exact rfl | assumption); omega)
    | ((with_reducible apply lm_sB); (first | exact rfl | assumption); omega)
    | ((with_reducible apply lm_wA); (first | exact rfl | assumption); omega)
    | ((with_reducible apply lm_wJ); (first | exact rfl | assumption); omega)
    | ((with_reducible apply lm_wB); (first | exact rfl | assumption); omega)
    | ((with_reducible apply lm_sAl); (first | exact rfl | assumption); omega)
    | ((with_reducible apply lm_iW); decide))
      simp only [Nat.reduceDiv, Nat.reduceMod]
      rw [e76, h.2.2, lm_oo]
      refine lm_sAA rfl (lm_roS (lm_dl s + i) (by omega)) ?_
      repeat (first
    | ((with_reducible apply lm_sI); exact rfl)
    | ((with_reducible apply lm_sR); exact rfl)
    | ((with_reducible apply lm_sS); exact rfl; exact rfl)
    | ((with_reducible apply lm_sL); exact rfl)
    | ((with_reducible apply lm_sP); exact rfl; exact rfl)
    | ((with_reducible apply lm_sPL); exact rfl; exact rfl)
    | ((with_reducible apply lm_sAA); exact rfl; exact rfl)
    | ((with_reducible apply lm_sA); (first | exact rfl | assumption); omega)
    | ((with_reducible apply lm_sJ); (first | exact rfl | assumption); omega)
    | ((with_reducible apply lm_sB); (first | exact rfl | assumption); omega)
    | ((with_reducible apply lm_wA); (first | exact rfl | assumption); omega)
    | ((with_reducible apply lm_wJ); (first | exact rfl | assumption); omega)
    | ((with_reducible apply lm_wB); (first | exact rfl | assumption); omega)
    | ((with_reducible apply lm_sAl); (first | exact rfl | assumption); omega)
    | ((with_reducible apply lm_iW); decide))
      refine lm_cV c2 ?_
      rw [lm_K0]
      exact K
    rcases lm_l299 (xs := xs) (d := d) (n := n1) (x := x) (m := m2) (s := s) (i := i) (b := lm_dg2 s - lm_be s) (W := W i) (Rr := Rr i) (D := fun c => ln_ce (lm_ng Bc (S (lm_dl s + i)) c % 8380417)) hs (by rw [p2.1 76 (by decide), e76]; exact h.1) (by omega) (by omega) (fun c hc => by rw [p2.1 _ (by omega), g1 _ (by omega) (by omega)]; exact hW i hi c hc) (fun c hc => ⟨p2.2 c hc, lm_ce_b ⟨Int.emod_nonneg _ (by decide), Int.emod_lt_of_pos _ (by decide)⟩⟩) (fun c hc => hR i c) with ⟨m3, i1, i2, i3, k3⟩ | ⟨m3, i1, ⟨c, hc, i2⟩, k3⟩
    · refine Or.inl ⟨m3, n1, ⟨rfl, fun r q1 q2 => by rw [i1 r (by omega), p2.1 r q2, g1 r (by omega) q2], fun i' hi' c hc => ?_⟩, fun R K => run R (k3 R (lm_e299_41 ?_))⟩
      · by_cases c0 : i' = i
        · subst c0; exact ⟨i2 c hc, i3 c hc⟩
        · rw [i1 _ (by omega), p2.1 _ (by omega)]; exact g2 i' (by omega) c hc
      · unfold lm_q299_41
        rw [lm_K256]
        refine lm_geT (by omega) (by omega) (by omega) ?_
        rw [lm_K1, lm_oo]
        exact K
    · exact Or.inr ⟨_, ⟨m3, rfl, fun r q1 q2 => by rw [i1 r (by omega), p2.1 r q2, g1 r (by omega) q2], i, c, hi, hc, i2⟩, run _ k3⟩) (lm_dk s) 0 (by omega) m n ⟨rfl, fun _ _ _ => rfl, fun i' hi' => absurd hi' (by omega)⟩ with ⟨m', n', ⟨en, g1, g2⟩, k1⟩ | ⟨R, ⟨m', eR, g1, g2⟩, k1⟩
  · subst en
    refine Or.inl ⟨m', head _ (k1 _ (lm_e299_16 ?_)), fun r q1 q2 => g1 r (by omega) q2, g2⟩
    clear g2
    unfold lm_q299_16
    repeat (first
    | ((with_reducible apply lm_sI); exact rfl)
    | ((with_reducible apply lm_sR); exact rfl)
    | ((with_reducible apply lm_sS); exact rfl; exact rfl)
    | ((with_reducible apply lm_sL); exact rfl)
    | ((with_reducible apply lm_sP); exact rfl; exact rfl)
    | ((with_reducible apply lm_sPL); exact rfl; exact rfl)
    | ((with_reducible apply lm_sAA); exact rfl; exact rfl)
    | ((with_reducible apply lm_sA); (first | exact rfl | assumption); omega)
    | ((with_reducible apply lm_sJ); (first | exact rfl | assumption); omega)
    | ((with_reducible apply lm_sB); (first | exact rfl | assumption); omega)
    | ((with_reducible apply lm_wA); (first | exact rfl | assumption); omega)
    | ((with_reducible apply lm_wJ); (first | exact rfl | assumption); omega)
    | ((with_reducible apply lm_wB); (first | exact rfl | assumption); omega)
    | ((with_reducible apply lm_sAl); (first | exact rfl | assumption); omega)
    | ((with_reducible apply lm_iW); decide))
    simp only [Nat.reduceDiv, Nat.reduceMod]
    rw [g1 76 (by omega) (by decide), h.2.1]
    refine lm_geT (by omega) (by omega) (by omega) ?_
    exact lm_iW (by decide) rfl
  · rw [eR] at k1
    exact Or.inr ⟨m', head _ k1, g1, g2⟩
/-- is there a hint? -/
def lm_hf' (g : Int) (Rr D : Nat → Nat → Int) (t : Nat) : Bool := decide (lm_hi g ((Rr (t / 256) (t % 256) + D (t / 256) (t % 256)) % 8380417) ≠ lm_hi g (Rr (t / 256) (t % 256)))
theorem lm_hf_at {g : Int} {Rr D : Nat → Nat → Int} {i c : Nat} (hc : c < 256) : lm_hf' g Rr D (256 * i + c) = decide (lm_hi g ((Rr i c + D i c) % 8380417) ≠ lm_hi g (Rr i c)) := by
  unfold lm_hf'
  rw [Nat.mul_add_div (by decide), Nat.div_eq_of_lt hc, Nat.add_zero, Nat.mul_add_mod, Nat.mod_eq_of_lt hc]
theorem lm_l300 {i w : Nat} {Rr D : Nat → Nat → Int} {h : Nat → Bool} (hs : s ≤ 2) (h17 : m 76 17 = Int32.ofNat s) (hi : i < 8) (hw : w = lm_do s) (hRR : ∀ c, c < 256 → m (177 + i) c = Int32.ofInt (Rr i c) ∧ 0 ≤ Rr i c ∧ Rr i c < 8380417) (hD : ∀ c, c < 256 → m 186 c = Int32.ofInt (D i c) ∧ -4190208 ≤ D i c ∧ D i c ≤ 4190208) (hh : h = lm_hf' (lm_dg2 s) Rr D) (h0 : (lm_hs h (256 * i + 0)).1 ≤ w) (h1 : ∀ j, j < w → lm_yb (m 193 j) = (lm_hs h (256 * i + 0)).2 j) : (∃ m', (∀ r, r ≠ 193 → m' r = m r) ∧ (∀ j, w ≤ j → m' 193 j = m 193 j) ∧ (∀ c, c < 256 → -((lm_dg2 s : Nat) : Int) < D i c ∧ D i c < (lm_dg2 s : Nat)) ∧ (lm_hs h (256 * i + 256)).1 ≤ w ∧ (∀ j, j < w → lm_yb (m' 193 j) = (lm_hs h (256 * i + 256)).2 j) ∧ ∀ R, lm_rn (lm_sc xs) (d + 4) lm_m300.2.2.2.2.1 (lm_reg lm_m300.2.2.2.2.2) (42, [(0, .ref 76), (1, .int (Int32.ofNat w)), (2, .int (Int32.ofNat (lm_hs h (256 * i + 256)).1)), (3, .int (Int32.ofNat i)), (4, .int (Int32.ofNat 256))], []) (lm_w m' n x) = some R → lm_rn (lm_sc xs) (d + 4) lm_m300.2.2.2.2.1 (lm_reg lm_m300.2.2.2.2.2) (42, [(0, .ref 76), (1, .int (Int32.ofNat w)), (2, .int (Int32.ofNat (lm_hs h (256 * i + 0)).1)), (3, .int (Int32.ofNat i)), (4, .int (Int32.ofNat 0))], []) (lm_w m n x) = some R) ∨ ∃ m', (∀ r, r ≠ 193 → m' r = m r) ∧ ((∃ c, c < 256 ∧ ¬ (-((lm_dg2 s : Nat) : Int) < D i c ∧ D i c < (lm_dg2 s : Nat))) ∨ w < (lm_hs h (256 * i + 256)).1) ∧ lm_rn (lm_sc xs) (d + 4) lm_m300.2.2.2.2.1 (lm_reg lm_m300.2.2.2.2.2) (42, [(0, .ref 76), (1, .int (Int32.ofNat w)), (2, .int (Int32.ofNat (lm_hs h (256 * i + 0)).1)), (3, .int (Int32.ofNat i)), (4, .int (Int32.ofNat 0))], []) (lm_w m n x) = some (.ok (some (.int 0)), lm_w m' n x) := by
  have aM := lm_arW8 i hi
  have hg := lm_g2_2 hs
  have hpar := lm_dpar s hs
  rcases lm_lpe (sc := lm_sc xs) (d := d + 4) (b := 256) (hs := lm_m300.2.2.2.2.1) (code := lm_reg lm_m300.2.2.2.2.2) (x := x) (fr := fun c => (42, [(0, .ref 76), (1, .int (Int32.ofNat w)), (2, .int (Int32.ofNat (lm_hs h (256 * i + c)).1)), (3, .int (Int32.ofNat i)), (4, .int (Int32.ofNat c))], [])) (I := fun c m' n' => n' = n ∧ (∀ r, r ≠ 193 → m' r = m r) ∧ (∀ j, w ≤ j → m' 193 j = m 193 j) ∧ (∀ c', c' < c → -((lm_dg2 s : Nat) : Int) < D i c' ∧ D i c' < (lm_dg2 s : Nat)) ∧ (lm_hs h (256 * i + c)).1 ≤ w ∧ ∀ j, j < w → lm_yb (m' 193 j) = (lm_hs h (256 * i + c)).2 j) (E := fun R => ∃ m', R = (.ok (some (.int 0)), lm_w m' n x) ∧ (∀ r, r ≠ 193 → m' r = m r) ∧ ((∃ c, c < 256 ∧ ¬ (-((lm_dg2 s : Nat) : Int) < D i c ∧ D i c < (lm_dg2 s : Nat))) ∨ w < (lm_hs h (256 * i + 256)).1)) (fun c hc m1 n1 ⟨en, g1, g2, g3, g4, g5⟩ => by
    subst en
    have hr := hRR c hc
    have hd := hD c hc
    have eR : m1 (177 + i) c = Int32.ofInt (Rr i c) := by rw [g1 _ (by omega)]; exact hr.1
    have eD : m1 186 c = Int32.ofInt (D i c) := by rw [g1 186 (by decide)]; exact hd.1
    have h17' : m1 76 17 = Int32.ofNat s := by rw [g1 76 (by decide)]; exact h17
    have u := lm_u253 (sc := lm_sc xs) (d := d + 3) (σ := lm_w m1 n1 x) (a := D i c) (by omega)
    have eh := lm_hf_at (g := (lm_dg2 s : Nat)) (Rr := Rr) (D := D) (i := i) hc
    rw [← hh] at eh
    by_cases cz : -((lm_dg2 s : Nat) : Int) < D i c ∧ D i c < (lm_dg2 s : Nat)
    · have br : 0 ≤ (Rr i c + D i c) % 8380417 ∧ (Rr i c + D i c) % 8380417 < 8380417 := ⟨Int.emod_nonneg _ (by decide), Int.emod_lt_of_pos _ (by decide)⟩
      have b1 := lm_hi_hb hs br
      have b2 := lm_hi_hb hs hr.2
      have hp2 : ((2 ^ lm_hb s : Nat) : Int) ≤ 64 := by
        have : 2 ^ lm_hb s ≤ 2 ^ 6 := Nat.pow_le_pow_right (by decide) (by omega)
        omega
      have u286 := lm_u286 (sc := lm_sc xs) (d := d + 3) (σ := lm_w m1 n1 x) (a := Rr i c + D i c) (q := 8380417) (by omega) (by omega) (by decide) (by decide)
      have uh1 := lm_u301 (xs := xs) (d := d + 2) (m := m1) (n := n1) (x := x) (r := (Rr i c + D i c) % 8380417) hs h17' br
      have uh2 := lm_u301 (xs := xs) (d := d + 2) (m := m1) (n := n1) (x := x) (r := Rr i c) hs h17' hr.2
      have e134 : ∀ m2 w2 R, lm_rn (lm_sc xs) (d + 4) lm_m300.2.2.2.2.1 (lm_reg lm_m300.2.2.2.2.2) (42, [(0, .ref 76), (1, .int (Int32.ofNat w)), (2, .int w2), (3, .int (Int32.ofNat i)), (4, .int (Int32.ofNat (c + 1)))], []) (lm_w m2 n1 x) = some R → lm_rn (lm_sc xs) (d + 4) lm_m300.2.2.2.2.1 (lm_reg lm_m300.2.2.2.2.2) (134, [(0, .ref 76), (1, .int (Int32.ofNat w)), (2, .int w2), (3, .int (Int32.ofNat i)), (4, .int (Int32.ofNat c))], []) (lm_w m2 n1 x) = some R := by
        intro m2 w2 R K
        refine lm_e300_134 ?_
        unfold lm_q300_134
        rw [lm_K1, lm_oo]
        exact K
      have pre : ∀ R, lm_if .eq (Int32.ofInt (lm_hi (lm_dg2 s) ((Rr i c + D i c) % 8380417))) (Int32.ofInt (lm_hi (lm_dg2 s) (Rr i c))) (lm_rn (lm_sc xs) (d + 4) lm_m300.2.2.2.2.1 (lm_reg lm_m300.2.2.2.2.2) (134, [(0, .ref 76), (1, .int (Int32.ofNat w)), (2, .int (Int32.ofNat (lm_hs h (256 * i + c)).1)), (3, .int (Int32.ofNat i)), (4, .int (Int32.ofNat c))], [])) (lm_if .ne (Int32.ofNat (lm_hs h (256 * i + c)).1) (Int32.ofNat w) (lm_bind (lm_gR 3666 76) fun v20 => lm_bind (lm_bast v20 (Int32.ofNat (lm_hs h (256 * i + c)).1) (lm_b8 (Int32.ofNat c))) fun _ => lm_rn (lm_sc xs) (d + 4) lm_m300.2.2.2.2.1 (lm_reg lm_m300.2.2.2.2.2) (134, [(0, .ref 76), (1, .int (Int32.ofNat w)), (2, .int (Int32.ofNat (lm_hs h (256 * i + c)).1 + Int32.ofInt 1)), (3, .int (Int32.ofNat i)), (4, .int (Int32.ofNat c))], [])) (lm_when ((Int32.ofInt 0) = 0 ∨ (Int32.ofInt 0) = 1) inferInstance (lm_ret (some (.int (Int32.ofInt 0)))))) (lm_w m1 n1 x) = some R → lm_rn (lm_sc xs) (d + 4) lm_m300.2.2.2.2.1 (lm_reg lm_m300.2.2.2.2.2) (42, [(0, .ref 76), (1, .int (Int32.ofNat w)), (2, .int (Int32.ofNat (lm_hs h (256 * i + c)).1)), (3, .int (Int32.ofNat i)), (4, .int (Int32.ofNat c))], []) (lm_w m1 n1 x) = some R := by
        intro R K
        clear g3 g4 g5 h0 h1 hRR hD
        refine lm_e300_42 ?_
        unfold lm_q300_42
        rw [lm_K256]
        refine lm_geF (by omega) (by omega) (by omega) ?_
        repeat (first
    | ((with_reducible apply lm_sI); exact rfl)
    | ((with_reducible apply lm_sR); exact rfl)
    | ((with_reducible apply lm_sS); exact rfl; exact rfl)
    | ((with_reducible apply lm_sL); exact rfl)
    | ((with_reducible apply lm_sP); exact rfl; exact rfl)
    | ((with_reducible apply lm_sPL); exact rfl; exact rfl)
    | ((with_reducible apply lm_sAA); exact rfl; exact rfl)
    | ((with_reducible apply lm_sA); (first | exact rfl | assumption); omega)
    | ((with_reducible apply lm_sJ); (first | exact rfl | assumption); omega)
    | ((with_reducible apply lm_sB); (first | exact rfl | assumption); omega)
    | ((with_reducible apply lm_wA); (first | exact rfl | assumption); omega)
    | ((with_reducible apply lm_wJ); (first | exact rfl | assumption); omega)
    | ((with_reducible apply lm_wB); (first | exact rfl | assumption); omega)
    | ((with_reducible apply lm_sAl); (first | exact rfl | assumption); omega)
    | ((with_reducible apply lm_iW); decide))
        rw [eD]
        refine lm_cI u ?_
        repeat (first
    | ((with_reducible apply lm_sI); exact rfl)
    | ((with_reducible apply lm_sR); exact rfl)
    | ((with_reducible apply lm_sS); exact rfl; exact rfl)
    | ((with_reducible apply lm_sL); exact rfl)
    | ((with_reducible apply lm_sP); exact rfl; exact rfl)
    | ((with_reducible apply lm_sPL); exact rfl; exact rfl)
    | ((with_reducible apply lm_sAA); exact rfl; exact rfl)
    | ((with_reducible apply lm_sA); (first | exact rfl | assumption); omega)
    | ((with_reducible apply lm_sJ); (first | exact rfl | assumption); omega)
    | ((with_reducible apply lm_sB); (first | exact rfl | assumption); omega)
    | ((with_reducible apply lm_wA); (first | exact rfl | assumption); omega)
    | ((with_reducible apply lm_wJ); (first | exact rfl | assumption); omega)
    | ((with_reducible apply lm_wB); (first | exact rfl | assumption); omega)
    | ((with_reducible apply lm_sAl); (first | exact rfl | assumption); omega)
    | ((with_reducible apply lm_iW); decide))
        simp only [Nat.reduceDiv, Nat.reduceMod]
        rw [h17']
        refine ln_tb12 hs ?_
        rw [lm_oN (lm_dg2 s)]
        refine lm_zltT (by split <;> omega) (by omega) (lm_abs_lt.mpr cz) ?_
        repeat (first
    | ((with_reducible apply lm_sI); exact rfl)
    | ((with_reducible apply lm_sR); exact rfl)
    | ((with_reducible apply lm_sS); exact rfl; exact rfl)
    | ((with_reducible apply lm_sL); exact rfl)
    | ((with_reducible apply lm_sP); exact rfl; exact rfl)
    | ((with_reducible apply lm_sPL); exact rfl; exact rfl)
    | ((with_reducible apply lm_sAA); exact rfl; exact rfl)
    | ((with_reducible apply lm_sA); (first | exact rfl | assumption); omega)
    | ((with_reducible apply lm_sJ); (first | exact rfl | assumption); omega)
    | ((with_reducible apply lm_sB); (first | exact rfl | assumption); omega)
    | ((with_reducible apply lm_wA); (first | exact rfl | assumption); omega)
    | ((with_reducible apply lm_wJ); (first | exact rfl | assumption); omega)
    | ((with_reducible apply lm_wB); (first | exact rfl | assumption); omega)
    | ((with_reducible apply lm_sAl); (first | exact rfl | assumption); omega)
    | ((with_reducible apply lm_iW); decide))
        refine lm_sAA rfl (lm_roW8 i hi) ?_
        repeat (first
    | ((with_reducible apply lm_sI); exact rfl)
    | ((with_reducible apply lm_sR); exact rfl)
    | ((with_reducible apply lm_sS); exact rfl; exact rfl)
    | ((with_reducible apply lm_sL); exact rfl)
    | ((with_reducible apply lm_sP); exact rfl; exact rfl)
    | ((with_reducible apply lm_sPL); exact rfl; exact rfl)
    | ((with_reducible apply lm_sAA); exact rfl; exact rfl)
    | ((with_reducible apply lm_sA); (first | exact rfl | assumption); omega)
    | ((with_reducible apply lm_sJ); (first | exact rfl | assumption); omega)
    | ((with_reducible apply lm_sB); (first | exact rfl | assumption); omega)
    | ((with_reducible apply lm_wA); (first | exact rfl | assumption); omega)
    | ((with_reducible apply lm_wJ); (first | exact rfl | assumption); omega)
    | ((with_reducible apply lm_wB); (first | exact rfl | assumption); omega)
    | ((with_reducible apply lm_sAl); (first | exact rfl | assumption); omega)
    | ((with_reducible apply lm_iW); decide))
        rw [eR, eD, lm_iA]
        refine lm_cI u286 ?_
        repeat (first
    | ((with_reducible apply lm_sI); exact rfl)
    | ((with_reducible apply lm_sR); exact rfl)
    | ((with_reducible apply lm_sS); exact rfl; exact rfl)
    | ((with_reducible apply lm_sL); exact rfl)
    | ((with_reducible apply lm_sP); exact rfl; exact rfl)
    | ((with_reducible apply lm_sPL); exact rfl; exact rfl)
    | ((with_reducible apply lm_sAA); exact rfl; exact rfl)
    | ((with_reducible apply lm_sA); (first | exact rfl | assumption); omega)
    | ((with_reducible apply lm_sJ); (first | exact rfl | assumption); omega)
    | ((with_reducible apply lm_sB); (first | exact rfl | assumption); omega)
    | ((with_reducible apply lm_wA); (first | exact rfl | assumption); omega)
    | ((with_reducible apply lm_wJ); (first | exact rfl | assumption); omega)
    | ((with_reducible apply lm_wB); (first | exact rfl | assumption); omega)
    | ((with_reducible apply lm_sAl); (first | exact rfl | assumption); omega)
    | ((with_reducible apply lm_iW); decide))
        refine lm_cI uh1 ?_
        repeat (first
    | ((with_reducible apply lm_sI); exact rfl)
    | ((with_reducible apply lm_sR); exact rfl)
    | ((with_reducible apply lm_sS); exact rfl; exact rfl)
    | ((with_reducible apply lm_sL); exact rfl)
    | ((with_reducible apply lm_sP); exact rfl; exact rfl)
    | ((with_reducible apply lm_sPL); exact rfl; exact rfl)
    | ((with_reducible apply lm_sAA); exact rfl; exact rfl)
    | ((with_reducible apply lm_sA); (first | exact rfl | assumption); omega)
    | ((with_reducible apply lm_sJ); (first | exact rfl | assumption); omega)
    | ((with_reducible apply lm_sB); (first | exact rfl | assumption); omega)
    | ((with_reducible apply lm_wA); (first | exact rfl | assumption); omega)
    | ((with_reducible apply lm_wJ); (first | exact rfl | assumption); omega)
    | ((with_reducible apply lm_wB); (first | exact rfl | assumption); omega)
    | ((with_reducible apply lm_sAl); (first | exact rfl | assumption); omega)
    | ((with_reducible apply lm_iW); decide))
        refine lm_sAA rfl (lm_roW8 i hi) ?_
        repeat (first
    | ((with_reducible apply lm_sI); exact rfl)
    | ((with_reducible apply lm_sR); exact rfl)
    | ((with_reducible apply lm_sS); exact rfl; exact rfl)
    | ((with_reducible apply lm_sL); exact rfl)
    | ((with_reducible apply lm_sP); exact rfl; exact rfl)
    | ((with_reducible apply lm_sPL); exact rfl; exact rfl)
    | ((with_reducible apply lm_sAA); exact rfl; exact rfl)
    | ((with_reducible apply lm_sA); (first | exact rfl | assumption); omega)
    | ((with_reducible apply lm_sJ); (first | exact rfl | assumption); omega)
    | ((with_reducible apply lm_sB); (first | exact rfl | assumption); omega)
    | ((with_reducible apply lm_wA); (first | exact rfl | assumption); omega)
    | ((with_reducible apply lm_wJ); (first | exact rfl | assumption); omega)
    | ((with_reducible apply lm_wB); (first | exact rfl | assumption); omega)
    | ((with_reducible apply lm_sAl); (first | exact rfl | assumption); omega)
    | ((with_reducible apply lm_iW); decide))
        rw [eR]
        refine lm_cI uh2 ?_
        exact K
      by_cases ce : lm_hi (lm_dg2 s) ((Rr i c + D i c) % 8380417) = lm_hi (lm_dg2 s) (Rr i c)
      · rw [decide_eq_false (fun g => g ce)] at eh
        have es := lm_hs_n eh
        refine Or.inl ⟨m1, n1, ⟨rfl, g1, g2, fun c' hc' => ?_, by rw [← Nat.add_assoc, es]; exact g4, by rw [← Nat.add_assoc, es]; exact g5⟩, fun R K => pre R ?_⟩
        · by_cases c0 : c' = c
          · subst c0; exact cz
          · exact g3 c' (by omega)
        · rw [← Nat.add_assoc, es] at K
          exact lm_zeqT ce (e134 _ _ R K)
      · rw [decide_eq_true ce] at eh
        have es := lm_hs_y eh
        by_cases cw : (lm_hs h (256 * i + c)).1 = w
        · refine Or.inr ⟨_, ⟨m1, rfl, g1, Or.inr ?_⟩, pre _ ?_⟩
          · have := lm_hs_m (h := h) (n := 256 * i + c + 1) (255 - c)
            rw [es, show 256 * i + c + 1 + (255 - c) = 256 * i + 256 by omega] at this
            have t2 : (lm_hs h (256 * i + c)).1 + 1 ≤ (lm_hs h (256 * i + 256)).1 := this
            omega
          · refine lm_zeqF (by omega) (by omega) ce ?_
            refine lm_neF (by omega) (by omega) (fun g => g cw) ?_
            exact lm_iW (by decide) rfl
        · refine Or.inl ⟨lm_u m1 193 (lm_hs h (256 * i + c)).1 (lm_b8 (Int32.ofNat c)), n1, ⟨rfl, fun r hr => (lm_u_row hr).trans (g1 r hr), fun j hj => ?_, fun c' hc' => ?_, ?_, fun j hj => ?_⟩, fun R K => pre R ?_⟩
          · rw [lm_u_ne (by omega)]; exact g2 j hj
          · by_cases c0 : c' = c
            · subst c0; exact cz
            · exact g3 c' (by omega)
          · rw [← Nat.add_assoc, es]
            show (lm_hs h (256 * i + c)).1 + 1 ≤ w
            omega
          · rw [← Nat.add_assoc, es]
            show _ = if j = (lm_hs h (256 * i + c)).1 then (256 * i + c) % 256 else (lm_hs h (256 * i + c)).2 j
            by_cases cj : j = (lm_hs h (256 * i + c)).1
            · rw [if_pos cj, cj, lm_u_eq, lm_yb_b8, lm_yb_n (by omega)]
              omega
            · rw [if_neg cj, lm_u_ne (fun g => cj g.2)]
              exact g5 j hj
          · rw [← Nat.add_assoc, es] at K
            refine lm_zeqF (by omega) (by omega) ce ?_
            refine lm_neT (by omega) (by omega) cw ?_
            repeat (first
    | ((with_reducible apply lm_sI); exact rfl)
    | ((with_reducible apply lm_sR); exact rfl)
    | ((with_reducible apply lm_sS); exact rfl; exact rfl)
    | ((with_reducible apply lm_sL); exact rfl)
    | ((with_reducible apply lm_sP); exact rfl; exact rfl)
    | ((with_reducible apply lm_sPL); exact rfl; exact rfl)
    | ((with_reducible apply lm_sAA); exact rfl; exact rfl)
    | ((with_reducible apply lm_sA); (first | exact rfl | assumption); omega)
    | ((with_reducible apply lm_sJ); (first | exact rfl | assumption); omega)
    | ((with_reducible apply lm_sB); (first | exact rfl | assumption); omega)
    | ((with_reducible apply lm_wA); (first | exact rfl | assumption); omega)
    | ((with_reducible apply lm_wJ); (first | exact rfl | assumption); omega)
    | ((with_reducible apply lm_wB); (first | exact rfl | assumption); omega)
    | ((with_reducible apply lm_sAl); (first | exact rfl | assumption); omega)
    | ((with_reducible apply lm_iW); decide))
            rw [lm_K1, lm_oo]
            exact e134 _ _ R K
    · refine Or.inr ⟨_, ⟨m1, rfl, g1, Or.inl ⟨c, hc, cz⟩⟩, ?_⟩
      clear g3 g5 h0 h1 hRR hD
      refine lm_e300_42 ?_
      unfold lm_q300_42
      rw [lm_K256]
      refine lm_geF (by omega) (by omega) (by omega) ?_
      repeat (first
    | ((with_reducible apply lm_sI); exact rfl)
    | ((with_reducible apply lm_sR); exact rfl)
    | ((with_reducible apply lm_sS); exact rfl; exact rfl)
    | ((with_reducible apply lm_sL); exact rfl)
    | ((with_reducible apply lm_sP); exact rfl; exact rfl)
    | ((with_reducible apply lm_sPL); exact rfl; exact rfl)
    | ((with_reducible apply lm_sAA); exact rfl; exact rfl)
    | ((with_reducible apply lm_sA); (first | exact rfl | assumption); omega)
    | ((with_reducible apply lm_sJ); (first | exact rfl | assumption); omega)
    | ((with_reducible apply lm_sB); (first | exact rfl | assumption); omega)
    | ((with_reducible apply lm_wA); (first | exact rfl | assumption); omega)
    | ((with_reducible apply lm_wJ); (first | exact rfl | assumption); omega)
    | ((with_reducible apply lm_wB); (first | exact rfl | assumption); omega)
    | ((with_reducible apply lm_sAl); (first | exact rfl | assumption); omega)
    | ((with_reducible apply lm_iW); decide))
      rw [eD]
      refine lm_cI u ?_
      repeat (first
    | ((with_reducible apply lm_sI); exact rfl)
    | ((with_reducible apply lm_sR); exact rfl)
    | ((with_reducible apply lm_sS); exact rfl; exact rfl)
    | ((with_reducible apply lm_sL); exact rfl)
    | ((with_reducible apply lm_sP); exact rfl; exact rfl)
    | ((with_reducible apply lm_sPL); exact rfl; exact rfl)
    | ((with_reducible apply lm_sAA); exact rfl; exact rfl)
    | ((with_reducible apply lm_sA); (first | exact rfl | assumption); omega)
    | ((with_reducible apply lm_sJ); (first | exact rfl | assumption); omega)
    | ((with_reducible apply lm_sB); (first | exact rfl | assumption); omega)
    | ((with_reducible apply lm_wA); (first | exact rfl | assumption); omega)
    | ((with_reducible apply lm_wJ); (first | exact rfl | assumption); omega)
    | ((with_reducible apply lm_wB); (first | exact rfl | assumption); omega)
    | ((with_reducible apply lm_sAl); (first | exact rfl | assumption); omega)
    | ((with_reducible apply lm_iW); decide))
      simp only [Nat.reduceDiv, Nat.reduceMod]
      rw [h17']
      refine ln_tb12 hs ?_
      rw [lm_oN (lm_dg2 s)]
      refine lm_zltF (by split <;> omega) (by omega) (fun g => cz (lm_abs_lt.mp g)) ?_
      exact lm_iW (by decide) rfl) 256 0 (by omega) m n ⟨rfl, fun _ _ => rfl, fun _ _ => rfl, fun c' hc' => absurd hc' (by omega), h0, h1⟩ with ⟨m', n', ⟨en, g1, g2, g3, g4, g5⟩, k1⟩ | ⟨R, ⟨m', eR, g1, g2⟩, k1⟩
  · subst en
    exact Or.inl ⟨m', g1, g2, g3, g4, g5, k1⟩
  · rw [eR] at k1
    exact Or.inr ⟨m', g1, g2, k1⟩
/-- makeHints -/
theorem lm_u300 {Rr D : Nat → Nat → Int} {Bc : Nat → Int} {T : Nat → Nat → Int} {h : Nat → Bool} (hs : s ≤ 2) (hd : lm_DC m s) (hz : ∀ k, k < 256 → m 77 k = Int32.ofInt (lm_zd k)) (hRR : ∀ i, i < lm_dk s → ∀ c, c < 256 → m (177 + i) c = Int32.ofInt (Rr i c) ∧ 0 ≤ Rr i c ∧ Rr i c < 8380417) (hB : lm_pts m 185 Bc) (hT : ∀ i, i < lm_dk s → lm_pts m (152 + i) (T i)) (hD : ∀ i c, D i c = ln_ce (lm_ng Bc (T i) c % 8380417)) (hh : h = lm_hf' (lm_dg2 s) Rr D) : (∃ m', lm_cal (lm_sc xs) (d + 5) 300 [.ref 76] (lm_w m n x) = some (.ok (some (.int 1)), lm_w m' n x) ∧ (∀ r, r ≠ 186 → r ≠ 193 → m' r = m r) ∧ (∀ i, i < lm_dk s → ∀ c, c < 256 → -((lm_dg2 s : Nat) : Int) < D i c ∧ D i c < (lm_dg2 s : Nat)) ∧ (lm_hs h (256 * lm_dk s)).1 ≤ lm_do s ∧ (∀ j, j < lm_do s → lm_yb (m' 193 j) = (lm_hs h (256 * lm_dk s)).2 j) ∧ ∀ i, i < lm_dk s → lm_yb (m' 193 (lm_do s + i)) = (lm_hs h (256 * (i + 1))).1) ∨ ∃ m', lm_cal (lm_sc xs) (d + 5) 300 [.ref 76] (lm_w m n x) = some (.ok (some (.int 0)), lm_w m' n x) ∧ (∀ r, r ≠ 186 → r ≠ 193 → m' r = m r) ∧ ((∃ i c, i < lm_dk s ∧ c < 256 ∧ ¬ (-((lm_dg2 s : Nat) : Int) < D i c ∧ D i c < (lm_dg2 s : Nat))) ∨ lm_do s < (lm_hs h (256 * lm_dk s)).1) := by
  have hkl := lm_dkl hs
  have hpar := lm_dpar s hs
  have c0 := lm_u199 (sc := lm_sc xs) (d := d + 3) (m := m) (n := n) (x := x) (q := 193) (k := 84) (v := Int32.ofInt 0) rfl
  generalize eM0 : lm_fil m 193 0 84 (fun _ => Int32.ofInt 0) = M0 at c0
  have r0 : ∀ r, r ≠ 193 → M0 r = m r := fun r hr => by rw [← eM0, lm_fl_row hr]
  have head : ∀ R, lm_rn (lm_sc xs) (d + 4) lm_m300.2.2.2.2.1 (lm_reg lm_m300.2.2.2.2.2) (21, [(0, .ref 76), (1, .int (Int32.ofNat (lm_do s))), (2, .int (Int32.ofNat (lm_hs h (256 * 0)).1)), (3, .int (Int32.ofNat 0))], []) (lm_w M0 n x) = some R → lm_cal (lm_sc xs) (d + 5) 300 [.ref 76] (lm_w m n x) = some R := by
    intro R K
    refine lm_cal_of (Y := lm_m300) rfl rfl (lm_e300_0 ?_)
    unfold lm_q300_0
    repeat (first
    | ((with_reducible apply lm_sI); exact rfl)
    | ((with_reducible apply lm_sR); exact rfl)
    | ((with_reducible apply lm_sS); exact rfl; exact rfl)
    | ((with_reducible apply lm_sL); exact rfl)
    | ((with_reducible apply lm_sP); exact rfl; exact rfl)
    | ((with_reducible apply lm_sPL); exact rfl; exact rfl)
    | ((with_reducible apply lm_sAA); exact rfl; exact rfl)
    | ((with_reducible apply lm_sA); (first | exact rfl | assumption); omega)
    | ((with_reducible apply lm_sJ); (first | exact rfl | assumption); omega)
    | ((with_reducible apply lm_sB); (first | exact rfl | assumption); omega)
    | ((with_reducible apply lm_wA); (first | exact rfl | assumption); omega)
    | ((with_reducible apply lm_wJ); (first | exact rfl | assumption); omega)
    | ((with_reducible apply lm_wB); (first | exact rfl | assumption); omega)
    | ((with_reducible apply lm_sAl); (first | exact rfl | assumption); omega)
    | ((with_reducible apply lm_iW); decide))
    simp only [Nat.reduceDiv, Nat.reduceMod]
    rw [hd.1]
    refine ln_tb15 hs ?_
    repeat (first
    | ((with_reducible apply lm_sI); exact rfl)
    | ((with_reducible apply lm_sR); exact rfl)
    | ((with_reducible apply lm_sS); exact rfl; exact rfl)
    | ((with_reducible apply lm_sL); exact rfl)
    | ((with_reducible apply lm_sP); exact rfl; exact rfl)
    | ((with_reducible apply lm_sPL); exact rfl; exact rfl)
    | ((with_reducible apply lm_sAA); exact rfl; exact rfl)
    | ((with_reducible apply lm_sA); (first | exact rfl | assumption); omega)
    | ((with_reducible apply lm_sJ); (first | exact rfl | assumption); omega)
    | ((with_reducible apply lm_sB); (first | exact rfl | assumption); omega)
    | ((with_reducible apply lm_wA); (first | exact rfl | assumption); omega)
    | ((with_reducible apply lm_wJ); (first | exact rfl | assumption); omega)
    | ((with_reducible apply lm_wB); (first | exact rfl | assumption); omega)
    | ((with_reducible apply lm_sAl); (first | exact rfl | assumption); omega)
    | ((with_reducible apply lm_iW); decide))
    refine lm_cV c0 ?_
    exact K
  rcases lm_lpe (sc := lm_sc xs) (d := d + 4) (b := lm_dk s) (hs := lm_m300.2.2.2.2.1) (code := lm_reg lm_m300.2.2.2.2.2) (x := x) (fr := fun i => (21, [(0, .ref 76), (1, .int (Int32.ofNat (lm_do s))), (2, .int (Int32.ofNat (lm_hs h (256 * i)).1)), (3, .int (Int32.ofNat i))], [])) (I := fun i m' n' => n' = n ∧ (∀ r, r ≠ 186 → r ≠ 193 → m' r = m r) ∧ (∀ i', i' < i → ∀ c, c < 256 → -((lm_dg2 s : Nat) : Int) < D i' c ∧ D i' c < (lm_dg2 s : Nat)) ∧ (lm_hs h (256 * i)).1 ≤ lm_do s ∧ (∀ j, j < lm_do s → lm_yb (m' 193 j) = (lm_hs h (256 * i)).2 j) ∧ ∀ i', i' < i → lm_yb (m' 193 (lm_do s + i')) = (lm_hs h (256 * (i' + 1))).1) (E := fun R => ∃ m', R = (.ok (some (.int 0)), lm_w m' n x) ∧ (∀ r, r ≠ 186 → r ≠ 193 → m' r = m r) ∧ ((∃ i c, i < lm_dk s ∧ c < 256 ∧ ¬ (-((lm_dg2 s : Nat) : Int) < D i c ∧ D i c < (lm_dg2 s : Nat))) ∨ lm_do s < (lm_hs h (256 * lm_dk s)).1)) (fun i hi m1 n1 ⟨en, g1, g2, g3, g4, g5⟩ => by
    subst en
    have e76 : m1 76 = m 76 := g1 76 (by decide) (by decide)
    have p185 : ∀ c, c < 256 → m1 185 c = Int32.ofInt ((m 185 c).toInt) := fun c hc => by rw [g1 185 (by decide) (by decide), Int32.ofInt_toInt]
    obtain ⟨m2, c2, p2⟩ := lm_u309 (sc := lm_sc xs) (d := d + 1) (m := m1) (n := n1) (x := x) (p := 152 + i) (B := Bc) (F := T i) (X := fun c => (m 185 c).toInt) (Y := fun c => (m (152 + i) c).toInt) (fun k hk => by rw [g1 77 (by decide) (by decide)]; exact hz k hk) (lm_arT i (by omega)) (by omega) p185 (fun c hc => by rw [g1 _ (by omega) (by omega), Int32.ofInt_toInt]) (fun c hc => (hB c hc).2) (fun c hc => (hT i hi c hc).2) (fun c hc => (hB c hc).1) (fun c hc => (hT i hi c hc).1)
    have run : ∀ R, lm_rn (lm_sc xs) (d + 4) lm_m300.2.2.2.2.1 (lm_reg lm_m300.2.2.2.2.2) (42, [(0, .ref 76), (1, .int (Int32.ofNat (lm_do s))), (2, .int (Int32.ofNat (lm_hs h (256 * i + 0)).1)), (3, .int (Int32.ofNat i)), (4, .int (Int32.ofNat 0))], []) (lm_w m2 n1 x) = some R → lm_rn (lm_sc xs) (d + 4) lm_m300.2.2.2.2.1 (lm_reg lm_m300.2.2.2.2.2) (21, [(0, .ref 76), (1, .int (Int32.ofNat (lm_do s))), (2, .int (Int32.ofNat (lm_hs h (256 * i)).1)), (3, .int (Int32.ofNat i))], []) (lm_w m1 n1 x) = some R := by
      intro R K
      clear g2 g3 g4 g5 hB hT hRR hD
      refine lm_e300_21 ?_
      unfold lm_q300_21
      repeat (first
    | ((with_reducible apply lm_sI); exact rfl)
    | ((with_reducible apply lm_sR); exact rfl)
    | ((with_reducible apply lm_sS); exact rfl; exact rfl)
    | ((with_reducible apply lm_sL); exact rfl)
    | ((with_reducible apply lm_sP); exact rfl; exact rfl)
    | ((with_reducible apply lm_sPL); exact rfl; exact rfl)
    | ((with_reducible apply lm_sAA); exact rfl; exact rfl)
    | ((with_reducible apply lm_sA); (first | exact rfl | assumption); omega)
    | ((with_reducible apply lm_sJ); (first | exact rfl | assumption); omega)
    | ((with_reducible apply lm_sB); (first | exact rfl | assumption); omega)
    | ((with_reducible apply lm_wA); (first | exact rfl | assumption); omega)
    | ((with_reducible apply lm_wJ); (first | exact rfl | assumption); omega)
    | ((with_reducible apply lm_wB); (first | exact rfl | assumption); omega)
    | ((with_reducible apply lm_sAl); (first | exact rfl | assumption); omega)
    | ((with_reducible apply lm_iW); decide))
      simp only [Nat.reduceDiv, Nat.reduceMod]
      rw [e76, hd.2.1]
      refine lm_geF (by omega) (by omega) (by omega) ?_
      repeat (first
    | ((with_reducible apply lm_sI); exact rfl)
    | ((with_reducible apply lm_sR); exact rfl)
    | ((with_reducible apply lm_sS); exact rfl; exact rfl)
    | ((with_reducible apply lm_sL); exact rfl)
    | ((with_reducible apply lm_sP); exact rfl; exact rfl)
    | ((with_reducible apply lm_sPL); exact rfl; exact rfl)
    | ((with_reducible apply lm_sAA); exact rfl; exact rfl)
    | ((with_reducible apply lm_sA); (first | exact rfl | assumption); omega)
    | ((with_reducible apply lm_sJ); (first | exact rfl | assumption); omega)
    | ((with_reducible apply lm_sB); (first | exact rfl | assumption); omega)
    | ((with_reducible apply lm_wA); (first | exact rfl | assumption); omega)
    | ((with_reducible apply lm_wJ); (first | exact rfl | assumption); omega)
    | ((with_reducible apply lm_wB); (first | exact rfl | assumption); omega)
    | ((with_reducible apply lm_sAl); (first | exact rfl | assumption); omega)
    | ((with_reducible apply lm_iW); decide))
      refine lm_sAA rfl (lm_roT i (by omega)) ?_
      repeat (first
    | ((with_reducible apply lm_sI); exact rfl)
    | ((with_reducible apply lm_sR); exact rfl)
    | ((with_reducible apply lm_sS); exact rfl; exact rfl)
    | ((with_reducible apply lm_sL); exact rfl)
    | ((with_reducible apply lm_sP); exact rfl; exact rfl)
    | ((with_reducible apply lm_sPL); exact rfl; exact rfl)
    | ((with_reducible apply lm_sAA); exact rfl; exact rfl)
    | ((with_reducible apply lm_sA); (first | exact rfl | assumption); omega)
    | ((with_reducible apply lm_sJ); (first | exact rfl | assumption); omega)
    | ((with_reducible apply lm_sB); (first | exact rfl | assumption); omega)
    | ((with_reducible apply lm_wA); (first | exact rfl | assumption); omega)
    | ((with_reducible apply lm_wJ); (first | exact rfl | assumption); omega)
    | ((with_reducible apply lm_wB); (first | exact rfl | assumption); omega)
    | ((with_reducible apply lm_sAl); (first | exact rfl | assumption); omega)
    | ((with_reducible apply lm_iW); decide))
      refine lm_cV c2 ?_
      rw [lm_K0]
      exact K
    rcases lm_l300 (xs := xs) (d := d) (n := n1) (x := x) (m := m2) (s := s) (i := i) (w := lm_do s) (Rr := Rr) (D := D) (h := h) hs (by rw [p2.1 76 (by decide), e76]; exact hd.1) (by omega) rfl (fun c hc => by rw [p2.1 _ (by omega), g1 _ (by omega) (by omega)]; exact hRR i hi c hc) (fun c hc => ⟨by rw [p2.2 c hc, hD i c], by rw [hD i c]; exact lm_ce_b ⟨Int.emod_nonneg _ (by decide), Int.emod_lt_of_pos _ (by decide)⟩⟩) hh g3 (fun j hj => by rw [p2.1 193 (by decide)]; exact g4 j hj) with ⟨m3, i1, i2, i3, i4, i5, k3⟩ | ⟨m3, i1, i2, k3⟩
    · rw [show 256 * i + 256 = 256 * (i + 1) by omega] at i4 i5 k3
      refine Or.inl ⟨lm_u m3 193 (lm_do s + i) (lm_b8 (Int32.ofNat (lm_hs h (256 * (i + 1))).1)), n1, ⟨rfl, fun r q1 q2 => by rw [lm_u_row q2, i1 r q2, p2.1 r q1, g1 r q1 q2], fun i' hi' c hc => ?_, i4, fun j hj => by rw [lm_u_ne (by omega)]; exact i5 j hj, fun i' hi' => ?_⟩, fun R K => run R (k3 R (lm_e300_42 ?_))⟩
      · by_cases c0 : i' = i
        · subst c0; exact i3 c hc
        · exact g2 i' (by omega) c hc
      · by_cases c0 : i' = i
        · subst c0
          rw [lm_u_eq, lm_yb_b8, lm_yb_n (by omega), Nat.mod_eq_of_lt (by omega)]
        · rw [lm_u_ne (by omega), i2 _ (by omega), p2.1 193 (by decide)]
          exact g5 i' (by omega)
      · clear g2 g4 g5 i3 i5 hB hT hRR hD
        unfold lm_q300_42
        rw [lm_K256]
        refine lm_geT (by omega) (by omega) (by omega) ?_
        rw [lm_oo]
        repeat (first
    | ((with_reducible apply lm_sI); exact rfl)
    | ((with_reducible apply lm_sR); exact rfl)
    | ((with_reducible apply lm_sS); exact rfl; exact rfl)
    | ((with_reducible apply lm_sL); exact rfl)
    | ((with_reducible apply lm_sP); exact rfl; exact rfl)
    | ((with_reducible apply lm_sPL); exact rfl; exact rfl)
    | ((with_reducible apply lm_sAA); exact rfl; exact rfl)
    | ((with_reducible apply lm_sA); (first | exact rfl | assumption); omega)
    | ((with_reducible apply lm_sJ); (first | exact rfl | assumption); omega)
    | ((with_reducible apply lm_sB); (first | exact rfl | assumption); omega)
    | ((with_reducible apply lm_wA); (first | exact rfl | assumption); omega)
    | ((with_reducible apply lm_wJ); (first | exact rfl | assumption); omega)
    | ((with_reducible apply lm_wB); (first | exact rfl | assumption); omega)
    | ((with_reducible apply lm_sAl); (first | exact rfl | assumption); omega)
    | ((with_reducible apply lm_iW); decide))
        rw [lm_K1, lm_oo]
        exact K
    · refine Or.inr ⟨_, ⟨m3, rfl, fun r q1 q2 => by rw [i1 r q2, p2.1 r q1, g1 r q1 q2], ?_⟩, run _ k3⟩
      rcases i2 with ⟨c, hc, i2⟩ | i2
      · exact Or.inl ⟨i, c, hi, hc, i2⟩
      · refine Or.inr (Nat.lt_of_lt_of_le i2 ?_)
        have := lm_hs_m (h := h) (n := 256 * i + 256) (256 * lm_dk s - (256 * i + 256))
        rw [show 256 * i + 256 + (256 * lm_dk s - (256 * i + 256)) = 256 * lm_dk s by omega] at this
        exact this) (lm_dk s) 0 (by omega) M0 n ⟨rfl, fun r _ q2 => r0 r q2, fun i' hi' => absurd hi' (by omega), by show 0 ≤ _; omega, fun j hj => by
        rw [← eM0, lm_fl_in (by omega)]
        rfl, fun i' hi' => absurd hi' (by omega)⟩ with ⟨m', n', ⟨en, g1, g2, g3, g4, g5⟩, k1⟩ | ⟨R, ⟨m', eR, g1, g2⟩, k1⟩
  · subst en
    refine Or.inl ⟨m', head _ (k1 _ (lm_e300_21 ?_)), g1, g2, g3, g4, g5⟩
    clear g2 g4 g5
    unfold lm_q300_21
    repeat (first
    | ((with_reducible apply lm_sI); exact rfl)
    | ((with_reducible apply lm_sR); exact rfl)
    | ((with_reducible apply lm_sS); exact rfl; exact rfl)
    | ((with_reducible apply lm_sL); exact rfl)
    | ((with_reducible apply lm_sP); exact rfl; exact rfl)
    | ((with_reducible apply lm_sPL); exact rfl; exact rfl)
    | ((with_reducible apply lm_sAA); exact rfl; exact rfl)
    | ((with_reducible apply lm_sA); (first | exact rfl | assumption); omega)
    | ((with_reducible apply lm_sJ); (first | exact rfl | assumption); omega)
    | ((with_reducible apply lm_sB); (first | exact rfl | assumption); omega)
    | ((with_reducible apply lm_wA); (first | exact rfl | assumption); omega)
    | ((with_reducible apply lm_wJ); (first | exact rfl | assumption); omega)
    | ((with_reducible apply lm_wB); (first | exact rfl | assumption); omega)
    | ((with_reducible apply lm_sAl); (first | exact rfl | assumption); omega)
    | ((with_reducible apply lm_iW); decide))
    simp only [Nat.reduceDiv, Nat.reduceMod]
    rw [g1 76 (by decide) (by decide), hd.2.1]
    refine lm_geT (by omega) (by omega) (by omega) ?_
    exact lm_iW (by decide) rfl
  · rw [eR] at k1
    exact Or.inr ⟨m', head _ k1, g1, g2⟩
end LMDX
