/-! ===== an attempt of the reference: the answers to the challenge ===== -/
section LMRZ2
variable {sc : lm_H} {C : lm_CX} {d s j : Nat} {m m0 : lm_MI} {n n0 : lm_ML} {x : lm_H × Nat × Nat} {K U V : Nat → Int32}
/-- a mask is finished: the inner loop -/
theorem lm_l99g {t b g : Nat} {Y Z D : Nat → Int} (ht : t < 7) (hb : b ≤ 1000) (hg : g ≤ 524288) (hg1 : 1000 ≤ g) (h45 : m 203 45 = Int32.ofNat g) (hY : ∀ c, c < 256 → m (270 + (23 + t)) c = Int32.ofInt (Y c)) (hD : ∀ c, c < 256 → m 317 c = Int32.ofInt (D c)) (hZ : ∀ c, c < 256 → Z c = Y c + D c ∧ -10000000 ≤ Z c ∧ Z c ≤ 10000000) : (∃ m', (∀ r, r ≠ 270 + (23 + t) → m' r = m r) ∧ (∀ c, c < 256 → m' (270 + (23 + t)) c = Int32.ofInt (Z c)) ∧ (∀ c, c < 256 → -((g - b : Nat) : Int) < Z c ∧ Z c < (g - b : Nat)) ∧ ∀ R, lm_rn sc (d + 6) lm_m99.2.2.2.2.1 (lm_reg lm_m99.2.2.2.2.2) (382, [(0, .ref 203), (2, .int (Int32.ofNat b)), (3, .int (Int32.ofNat t)), (4, .int (Int32.ofNat 256))], []) (lm_w m' n x) = some R → lm_rn sc (d + 6) lm_m99.2.2.2.2.1 (lm_reg lm_m99.2.2.2.2.2) (382, [(0, .ref 203), (2, .int (Int32.ofNat b)), (3, .int (Int32.ofNat t)), (4, .int (Int32.ofNat 0))], []) (lm_w m n x) = some R) ∨ ∃ m', (∀ r, r ≠ 270 + (23 + t) → m' r = m r) ∧ (∃ c, c < 256 ∧ ¬ (-((g - b : Nat) : Int) < Z c ∧ Z c < (g - b : Nat))) ∧ lm_rn sc (d + 6) lm_m99.2.2.2.2.1 (lm_reg lm_m99.2.2.2.2.2) (382, [(0, .ref 203), (2, .int (Int32.ofNat b)), (3, .int (Int32.ofNat t)), (4, .int (Int32.ofNat 0))], []) (lm_w m n x) = some (.ok (some (.int 0)), lm_w m' n x) := by
  have aY := lm_arY (23 + t) (by omega)
  rcases lm_lpe (sc := sc) (d := d + 6) (b := 256) (hs := lm_m99.2.2.2.2.1) (code := lm_reg lm_m99.2.2.2.2.2) (x := x) (fr := fun c => (382, [(0, .ref 203), (2, .int (Int32.ofNat b)), (3, .int (Int32.ofNat t)), (4, .int (Int32.ofNat c))], [])) (I := fun c m' n' => n' = n ∧ (∀ r, r ≠ 270 + (23 + t) → m' r = m r) ∧ (∀ c', c' < c → m' (270 + (23 + t)) c' = Int32.ofInt (Z c') ∧ -((g - b : Nat) : Int) < Z c' ∧ Z c' < (g - b : Nat)) ∧ ∀ c', c ≤ c' → m' (270 + (23 + t)) c' = m (270 + (23 + t)) c') (E := fun R => ∃ m', R = (.ok (some (.int 0)), lm_w m' n x) ∧ (∀ r, r ≠ 270 + (23 + t) → m' r = m r) ∧ ∃ c, c < 256 ∧ ¬ (-((g - b : Nat) : Int) < Z c ∧ Z c < (g - b : Nat))) (fun c hc m1 n1 ⟨en, g1, g2, g3⟩ => by
    subst en
    have hz := hZ c hc
    have eY : m1 (270 + (23 + t)) c = Int32.ofInt (Y c) := by rw [g3 c (by omega)]; exact hY c hc
    have eD : m1 317 c = Int32.ofInt (D c) := by rw [g1 317 (by omega)]; exact hD c hc
    generalize eM : lm_u m1 (270 + (23 + t)) c (Int32.ofInt (Z c)) = M
    have rM : ∀ r, r ≠ 270 + (23 + t) → M r = m1 r := fun r hr => by rw [← eM, lm_u_row hr]
    have h45' : M 203 45 = Int32.ofNat g := by rw [rM 203 (by omega), g1 203 (by omega)]; exact h45
    have eZ : M (270 + (23 + t)) c = Int32.ofInt (Z c) := by rw [← eM, lm_u_eq]
    have e1 : Int32.ofNat g - Int32.ofNat b = Int32.ofInt ((g : Int) - b) := by rw [lm_oN, lm_oN, lm_iS]
    have e2 : Int32.ofNat b - Int32.ofNat g = Int32.ofInt ((b : Int) - g) := by rw [lm_oN, lm_oN, lm_iS]
    have pre : ∀ R, lm_if .ge (Int32.ofInt (Z c)) (Int32.ofInt ((g : Int) - b)) (lm_ret (some (.int (Int32.ofInt 0)))) (lm_if .gt (Int32.ofInt (Z c)) (Int32.ofInt ((b : Int) - g)) (lm_rn sc (d + 6) lm_m99.2.2.2.2.1 (lm_reg lm_m99.2.2.2.2.2) (382, [(0, .ref 203), (2, .int (Int32.ofNat b)), (3, .int (Int32.ofNat t)), (4, .int (Int32.ofNat (c + 1)))], [])) (lm_ret (some (.int (Int32.ofInt 0))))) (lm_w M n1 x) = some R → lm_rn sc (d + 6) lm_m99.2.2.2.2.1 (lm_reg lm_m99.2.2.2.2.2) (382, [(0, .ref 203), (2, .int (Int32.ofNat b)), (3, .int (Int32.ofNat t)), (4, .int (Int32.ofNat c))], []) (lm_w m1 n1 x) = some R := by
      intro R KK
      clear g2 g3 hY hD hZ
      refine lm_e99_382 ?_
      unfold lm_q99_382
      rw [lm_K256]
      refine lm_geF (by omega) (by omega) (by omega) ?_
      rw [show Int32.ofInt 23 = Int32.ofNat 23 from rfl, show Int32.ofInt 47 = Int32.ofNat 47 from rfl, lm_oo]
      repeat (first
    | ((with_reducible apply lm_sI); exact rfl)
    | ((with_reducible apply lm_sR); exact rfl)
    | ((with_reducible apply lm_sS); exact rfl; exact rfl)
    | ((with_reducible apply lm_sL); exact rfl)
    | ((with_reducible apply lm_sP); exact rfl; exact rfl)
    | ((with_reducible apply lm_sPL); exact rfl; exact rfl)
    | ((with_reducible apply lm_sAA); exact rfl; exact rfl)
    | ((with_reducible apply lm_sA); (first | exact rfl | assumption); omega)
    | ((with_reducible apply lm_sJ); (first | exact rfl | assumption); omega)
    | ((with_reducible apply lm_sB); (first | exact rfl | assumption); omega)
    | ((with_reducible apply lm_wA); (first | exact rfl | assumption); omega)
    | ((with_reducible apply lm_wJ); (first | exact rfl | assumption); omega)
    | ((with_reducible apply lm_wB); (first | exact rfl | assumption); omega)
    | ((with_reducible apply lm_sAl); (first | exact rfl | assumption); omega)
    | ((with_reducible apply lm_iW); decide))
      refine lm_sAA rfl (lm_roY (23 + t) (by omega)) ?_
      repeat (first
    | ((with_reducible apply lm_sI); exact rfl)
    | ((with_reducible apply lm_sR); exact rfl)
    | ((with_reducible apply lm_sS); exact rfl; exact rfl)
    | ((with_reducible apply lm_sL); exact rfl)
    | ((with_reducible apply lm_sP); exact rfl; exact rfl)
    | ((with_reducible apply lm_sPL); exact rfl; exact rfl)
    | ((with_reducible apply lm_sAA); exact rfl; exact rfl)
    | ((with_reducible apply lm_sA); (first | exact rfl | assumption); omega)
    | ((with_reducible apply lm_sJ); (first | exact rfl | assumption); omega)
    | ((with_reducible apply lm_sB); (first | exact rfl | assumption); omega)
    | ((with_reducible apply lm_wA); (first | exact rfl | assumption); omega)
    | ((with_reducible apply lm_wJ); (first | exact rfl | assumption); omega)
    | ((with_reducible apply lm_wB); (first | exact rfl | assumption); omega)
    | ((with_reducible apply lm_sAl); (first | exact rfl | assumption); omega)
    | ((with_reducible apply lm_iW); decide))
      rw [eY, eD, lm_iA, ← hz.1, eM]
      repeat (first
    | ((with_reducible apply lm_sI); exact rfl)
    | ((with_reducible apply lm_sR); exact rfl)
    | ((with_reducible apply lm_sS); exact rfl; exact rfl)
    | ((with_reducible apply lm_sL); exact rfl)
    | ((with_reducible apply lm_sP); exact rfl; exact rfl)
    | ((with_reducible apply lm_sPL); exact rfl; exact rfl)
    | ((with_reducible apply lm_sAA); exact rfl; exact rfl)
    | ((with_reducible apply lm_sA); (first | exact rfl | assumption); omega)
    | ((with_reducible apply lm_sJ); (first | exact rfl | assumption); omega)
    | ((with_reducible apply lm_sB); (first | exact rfl | assumption); omega)
    | ((with_reducible apply lm_wA); (first | exact rfl | assumption); omega)
    | ((with_reducible apply lm_wJ); (first | exact rfl | assumption); omega)
    | ((with_reducible apply lm_wB); (first | exact rfl | assumption); omega)
    | ((with_reducible apply lm_sAl); (first | exact rfl | assumption); omega)
    | ((with_reducible apply lm_iW); decide))
      refine lm_sAA rfl (lm_roY (23 + t) (by omega)) ?_
      repeat (first
    | ((with_reducible apply lm_sI); exact rfl)
    | ((with_reducible apply lm_sR); exact rfl)
    | ((with_reducible apply lm_sS); exact rfl; exact rfl)
    | ((with_reducible apply lm_sL); exact rfl)
    | ((with_reducible apply lm_sP); exact rfl; exact rfl)
    | ((with_reducible apply lm_sPL); exact rfl; exact rfl)
    | ((with_reducible apply lm_sAA); exact rfl; exact rfl)
    | ((with_reducible apply lm_sA); (first | exact rfl | assumption); omega)
    | ((with_reducible apply lm_sJ); (first | exact rfl | assumption); omega)
    | ((with_reducible apply lm_sB); (first | exact rfl | assumption); omega)
    | ((with_reducible apply lm_wA); (first | exact rfl | assumption); omega)
    | ((with_reducible apply lm_wJ); (first | exact rfl | assumption); omega)
    | ((with_reducible apply lm_wB); (first | exact rfl | assumption); omega)
    | ((with_reducible apply lm_sAl); (first | exact rfl | assumption); omega)
    | ((with_reducible apply lm_iW); decide))
      simp only [Nat.reduceDiv, Nat.reduceMod]
      rw [eZ, h45', e1]
      by_cases cg : (g : Int) - b ≤ Z c
      · refine lm_zgeT (by omega) (by omega) cg ?_
        rw [lm_if_t (show lm_cmp .ge (Int32.ofInt (Z c)) (Int32.ofInt ((g : Int) - b)) from (lm_zle (by omega) (by omega)).mpr cg)] at KK
        exact KK
      · refine lm_zgeF (by omega) (by omega) cg ?_
        rw [lm_if_f (show ¬ lm_cmp .ge (Int32.ofInt (Z c)) (Int32.ofInt ((g : Int) - b)) from fun q => cg ((lm_zle (by omega) (by omega)).mp q))] at KK
        repeat (first
    | ((with_reducible apply lm_sI); exact rfl)
    | ((with_reducible apply lm_sR); exact rfl)
    | ((with_reducible apply lm_sS); exact rfl; exact rfl)
    | ((with_reducible apply lm_sL); exact rfl)
    | ((with_reducible apply lm_sP); exact rfl; exact rfl)
    | ((with_reducible apply lm_sPL); exact rfl; exact rfl)
    | ((with_reducible apply lm_sAA); exact rfl; exact rfl)
    | ((with_reducible apply lm_sA); (first | exact rfl | assumption); omega)
    | ((with_reducible apply lm_sJ); (first | exact rfl | assumption); omega)
    | ((with_reducible apply lm_sB); (first | exact rfl | assumption); omega)
    | ((with_reducible apply lm_wA); (first | exact rfl | assumption); omega)
    | ((with_reducible apply lm_wJ); (first | exact rfl | assumption); omega)
    | ((with_reducible apply lm_wB); (first | exact rfl | assumption); omega)
    | ((with_reducible apply lm_sAl); (first | exact rfl | assumption); omega)
    | ((with_reducible apply lm_iW); decide))
        refine lm_sAA rfl (lm_roY (23 + t) (by omega)) ?_
        repeat (first
    | ((with_reducible apply lm_sI); exact rfl)
    | ((with_reducible apply lm_sR); exact rfl)
    | ((with_reducible apply lm_sS); exact rfl; exact rfl)
    | ((with_reducible apply lm_sL); exact rfl)
    | ((with_reducible apply lm_sP); exact rfl; exact rfl)
    | ((with_reducible apply lm_sPL); exact rfl; exact rfl)
    | ((with_reducible apply lm_sAA); exact rfl; exact rfl)
    | ((with_reducible apply lm_sA); (first | exact rfl | assumption); omega)
    | ((with_reducible apply lm_sJ); (first | exact rfl | assumption); omega)
    | ((with_reducible apply lm_sB); (first | exact rfl | assumption); omega)
    | ((with_reducible apply lm_wA); (first | exact rfl | assumption); omega)
    | ((with_reducible apply lm_wJ); (first | exact rfl | assumption); omega)
    | ((with_reducible apply lm_wB); (first | exact rfl | assumption); omega)
    | ((with_reducible apply lm_sAl); (first | exact rfl | assumption); omega)
    | ((with_reducible apply lm_iW); decide))
        simp only [Nat.reduceDiv, Nat.reduceMod]
        rw [eZ, h45', e2, lm_K1, lm_oo]
        exact KK
    by_cases cz : -((g - b : Nat) : Int) < Z c ∧ Z c < (g - b : Nat)
    · refine Or.inl ⟨M, n1, ⟨rfl, fun r hr => by rw [rM r hr, g1 r hr], fun c' hc' => ?_, fun c' hc' => ?_⟩, fun R KK => pre R ?_⟩
      · by_cases c0 : c' = c
        · subst c0; exact ⟨eZ, cz⟩
        · rw [← eM, lm_u_ne (fun q => c0 q.2)]; exact g2 c' (by omega)
      · rw [← eM, lm_u_ne (by omega)]; exact g3 c' (by omega)
      · refine lm_zgeF (by omega) (by omega) (by omega) ?_
        refine lm_zgtT (by omega) (by omega) (by omega) ?_
        exact KK
    · refine Or.inr ⟨_, ⟨M, rfl, fun r hr => by rw [rM r hr, g1 r hr], c, hc, cz⟩, pre _ ?_⟩
      by_cases cg : (g : Int) - b ≤ Z c
      · exact lm_zgeT (by omega) (by omega) cg rfl
      · refine lm_zgeF (by omega) (by omega) cg ?_
        exact lm_zgtF (by omega) (by omega) (by omega) rfl) 256 0 (by omega) m n ⟨rfl, fun _ _ => rfl, fun c' hc' => absurd hc' (by omega), fun _ _ => rfl⟩ with ⟨m', n', ⟨en, g1, g2, g3⟩, k1⟩ | ⟨R, ⟨m', eR, g1, g2⟩, k1⟩
  · subst en
    exact Or.inl ⟨m', g1, fun c hc => (g2 c hc).1, fun c hc => (g2 c hc).2, k1⟩
  · rw [eR] at k1
    exact Or.inr ⟨m', g1, g2, k1⟩
/-- the masks are finished -/
theorem lm_l99h {Bc : Nat → Int} {S Y Z : Nat → Nat → Int} (hs : s ≤ 2) (h42 : m 203 42 = Int32.ofNat (lm_dl s)) (hE : lm_RE s m) (hB : ∀ c, c < 256 → m 316 c = Int32.ofInt (Bc c)) (bB : ∀ c, -1 ≤ Bc c ∧ Bc c ≤ 1) (hS : ∀ t, t < lm_dl s → ∀ c, c < 256 → m (270 + t) c = Int32.ofInt (S t c) ∧ -8380417 ≤ S t c ∧ S t c ≤ 8380417) (hY : ∀ t, t < lm_dl s → ∀ c, c < 256 → m (270 + (23 + t)) c = Int32.ofInt (Y t c) ∧ -600000 ≤ Y t c ∧ Y t c ≤ 600000) (hZ : ∀ t c, Z t c = Y t c + ln_ce (lm_ng Bc (S t) c % 8380417)) : (∃ m' n', (∀ r, r ≠ 317 → (r < 293 ∨ 299 < r) → m' r = m r) ∧ (∀ q, q ≠ 230 → n' q = n q) ∧ (∀ t, t < lm_dl s → ∀ c, c < 256 → m' (270 + (23 + t)) c = Int32.ofInt (Z t c) ∧ -((lm_dg1 s - lm_be s : Nat) : Int) < Z t c ∧ Z t c < (lm_dg1 s - lm_be s : Nat)) ∧ ∀ R, lm_rn sc (d + 6) lm_m99.2.2.2.2.1 (lm_reg lm_m99.2.2.2.2.2) (347, [(0, .ref 203), (2, .int (Int32.ofNat (lm_be s))), (3, .int (Int32.ofNat (lm_dl s)))], []) (lm_w m' n' x) = some R → lm_rn sc (d + 6) lm_m99.2.2.2.2.1 (lm_reg lm_m99.2.2.2.2.2) (347, [(0, .ref 203), (2, .int (Int32.ofNat (lm_be s))), (3, .int (Int32.ofNat 0))], []) (lm_w m n x) = some R) ∨ ∃ m' n', (∀ r, r ≠ 317 → (r < 293 ∨ 299 < r) → m' r = m r) ∧ (∀ q, q ≠ 230 → n' q = n q) ∧ (∃ t c, t < lm_dl s ∧ c < 256 ∧ ¬ (-((lm_dg1 s - lm_be s : Nat) : Int) < Z t c ∧ Z t c < (lm_dg1 s - lm_be s : Nat))) ∧ lm_rn sc (d + 6) lm_m99.2.2.2.2.1 (lm_reg lm_m99.2.2.2.2.2) (347, [(0, .ref 203), (2, .int (Int32.ofNat (lm_be s))), (3, .int (Int32.ofNat 0))], []) (lm_w m n x) = some (.ok (some (.int 0)), lm_w m' n' x) := by
  have hkl := lm_dkl hs
  have hpar := lm_dpar s hs
  rcases lm_lpe (sc := sc) (d := d + 6) (b := lm_dl s) (hs := lm_m99.2.2.2.2.1) (code := lm_reg lm_m99.2.2.2.2.2) (x := x) (fr := fun t => (347, [(0, .ref 203), (2, .int (Int32.ofNat (lm_be s))), (3, .int (Int32.ofNat t))], [])) (I := fun t m' n' => (∀ r, r ≠ 317 → (r < 293 ∨ 293 + t ≤ r) → m' r = m r) ∧ (∀ q, q ≠ 230 → n' q = n q) ∧ ∀ t', t' < t → ∀ c, c < 256 → m' (270 + (23 + t')) c = Int32.ofInt (Z t' c) ∧ -((lm_dg1 s - lm_be s : Nat) : Int) < Z t' c ∧ Z t' c < (lm_dg1 s - lm_be s : Nat)) (E := fun R => ∃ m' n', R = (.ok (some (.int 0)), lm_w m' n' x) ∧ (∀ r, r ≠ 317 → (r < 293 ∨ 299 < r) → m' r = m r) ∧ (∀ q, q ≠ 230 → n' q = n q) ∧ ∃ t c, t < lm_dl s ∧ c < 256 ∧ ¬ (-((lm_dg1 s - lm_be s : Nat) : Int) < Z t c ∧ Z t c < (lm_dg1 s - lm_be s : Nat))) (fun t ht m1 n1 ⟨g1, g2, g3⟩ => by
    obtain ⟨m2, n2, c2, p2, q2⟩ := lm_u172 (sc := sc) (d := d + 4) (m := m1) (n := n1) (x := x) (p := 317) (b := 316) (f := 270 + t) (B := Bc) (F := S t) rfl rfl (lm_arY t (by omega)) (fun c hc => by rw [g1 316 (by decide) (by omega)]; exact hB c hc) bB (fun c hc => by rw [g1 _ (by omega) (by omega)]; exact (hS t ht c hc).1) (fun c hc => (hS t ht c hc).2)
    have run : ∀ R, lm_rn sc (d + 6) lm_m99.2.2.2.2.1 (lm_reg lm_m99.2.2.2.2.2) (382, [(0, .ref 203), (2, .int (Int32.ofNat (lm_be s))), (3, .int (Int32.ofNat t)), (4, .int (Int32.ofNat 0))], []) (lm_w m2 n2 x) = some R → lm_rn sc (d + 6) lm_m99.2.2.2.2.1 (lm_reg lm_m99.2.2.2.2.2) (347, [(0, .ref 203), (2, .int (Int32.ofNat (lm_be s))), (3, .int (Int32.ofNat t))], []) (lm_w m1 n1 x) = some R := by
      intro R KK
      clear g3 hB hS hY hZ bB
      refine lm_e99_347 ?_
      unfold lm_q99_347
      repeat (first
    | ((with_reducible apply lm_sI); exact rfl)
    | ((with_reducible apply lm_sR); exact rfl)
    | ((with_reducible apply lm_sS); exact rfl; exact rfl)
    | ((with_reducible apply lm_sL); exact rfl)
    | ((with_reducible apply lm_sP); exact rfl; exact rfl)
    | ((with_reducible apply lm_sPL); exact rfl; exact rfl)
    | ((with_reducible apply lm_sAA); exact rfl; exact rfl)
    | ((with_reducible apply lm_sA); (first | exact rfl | assumption); omega)
    | ((with_reducible apply lm_sJ); (first | exact rfl | assumption); omega)
    | ((with_reducible apply lm_sB); (first | exact rfl | assumption); omega)
    | ((with_reducible apply lm_wA); (first | exact rfl | assumption); omega)
    | ((with_reducible apply lm_wJ); (first | exact rfl | assumption); omega)
    | ((with_reducible apply lm_wB); (first | exact rfl | assumption); omega)
    | ((with_reducible apply lm_sAl); (first | exact rfl | assumption); omega)
    | ((with_reducible apply lm_iW); decide))
      simp only [Nat.reduceDiv, Nat.reduceMod]
      rw [g1 203 (by decide) (by omega), h42]
      refine lm_geF (by omega) (by omega) (by omega) ?_
      rw [show Int32.ofInt 46 = Int32.ofNat 46 from rfl, show Int32.ofInt 47 = Int32.ofNat 47 from rfl, lm_K0]
      repeat (first
    | ((with_reducible apply lm_sI); exact rfl)
    | ((with_reducible apply lm_sR); exact rfl)
    | ((with_reducible apply lm_sS); exact rfl; exact rfl)
    | ((with_reducible apply lm_sL); exact rfl)
    | ((with_reducible apply lm_sP); exact rfl; exact rfl)
    | ((with_reducible apply lm_sPL); exact rfl; exact rfl)
    | ((with_reducible apply lm_sAA); exact rfl; exact rfl)
    | ((with_reducible apply lm_sA); (first | exact rfl | assumption); omega)
    | ((with_reducible apply lm_sJ); (first | exact rfl | assumption); omega)
    | ((with_reducible apply lm_sB); (first | exact rfl | assumption); omega)
    | ((with_reducible apply lm_wA); (first | exact rfl | assumption); omega)
    | ((with_reducible apply lm_wJ); (first | exact rfl | assumption); omega)
    | ((with_reducible apply lm_wB); (first | exact rfl | assumption); omega)
    | ((with_reducible apply lm_sAl); (first | exact rfl | assumption); omega)
    | ((with_reducible apply lm_iW); decide))
      refine lm_sAA rfl (lm_roY t (by omega)) ?_
      repeat (first
    | ((with_reducible apply lm_sI); exact rfl)
    | ((with_reducible apply lm_sR); exact rfl)
    | ((with_reducible apply lm_sS); exact rfl; exact rfl)
    | ((with_reducible apply lm_sL); exact rfl)
    | ((with_reducible apply lm_sP); exact rfl; exact rfl)
    | ((with_reducible apply lm_sPL); exact rfl; exact rfl)
    | ((with_reducible apply lm_sAA); exact rfl; exact rfl)
    | ((with_reducible apply lm_sA); (first | exact rfl | assumption); omega)
    | ((with_reducible apply lm_sJ); (first | exact rfl | assumption); omega)
    | ((with_reducible apply lm_sB); (first | exact rfl | assumption); omega)
    | ((with_reducible apply lm_wA); (first | exact rfl | assumption); omega)
    | ((with_reducible apply lm_wJ); (first | exact rfl | assumption); omega)
    | ((with_reducible apply lm_wB); (first | exact rfl | assumption); omega)
    | ((with_reducible apply lm_sAl); (first | exact rfl | assumption); omega)
    | ((with_reducible apply lm_iW); decide))
      refine lm_cV c2 ?_
      exact KK
    rcases lm_l99g (sc := sc) (d := d) (n := n2) (x := x) (m := m2) (t := t) (b := lm_be s) (g := lm_dg1 s) (Y := Y t) (Z := Z t) (D := fun c => ln_ce (lm_ng Bc (S t) c % 8380417)) (by omega) (by omega) (by omega) (by omega) (by rw [p2.1 203 (by decide), g1 203 (by decide) (by omega)]; exact hE.2.1) (fun c hc => by rw [p2.1 _ (by omega), g1 _ (by omega) (by omega)]; exact (hY t ht c hc).1) (fun c hc => p2.2 c hc) (fun c hc => by
      have b1 := (hY t ht c hc).2
      have b2 := lm_ce_b (r := lm_ng Bc (S t) c % 8380417) ⟨Int.emod_nonneg _ (by decide), Int.emod_lt_of_pos _ (by decide)⟩
      rw [hZ t c]
      exact ⟨rfl, by omega, by omega⟩) with ⟨m3, i1, i2, i3, k3⟩ | ⟨m3, i1, ⟨c, hc, i2⟩, k3⟩
    · refine Or.inl ⟨m3, n2, ⟨fun r q1 q2' => by rw [i1 r (by omega), p2.1 r q1, g1 r q1 (by omega)], fun q hq => (q2 q hq).trans (g2 q hq), fun t' ht' c hc => ?_⟩, fun R KK => run R (k3 R (lm_e99_382 ?_))⟩
      · by_cases c0 : t' = t
        · subst c0; exact ⟨i2 c hc, i3 c hc⟩
        · rw [i1 _ (by omega), p2.1 _ (by omega)]; exact g3 t' (by omega) c hc
      · unfold lm_q99_382
        rw [lm_K256]
        refine lm_geT (by omega) (by omega) (by omega) ?_
        rw [lm_K1, lm_oo]
        exact KK
    · exact Or.inr ⟨_, ⟨m3, n2, rfl, fun r q1 q2' => by rw [i1 r (by omega), p2.1 r q1, g1 r q1 (by omega)], fun q hq => (q2 q hq).trans (g2 q hq), t, c, ht, hc, i2⟩, run _ k3⟩) (lm_dl s) 0 (by omega) m n ⟨fun _ _ _ => rfl, fun _ _ => rfl, fun t' ht' => absurd ht' (by omega)⟩ with ⟨m', n', ⟨g1, g2, g3⟩, k1⟩ | ⟨R, ⟨m', n', eR, g1, g2, g3⟩, k1⟩
  · exact Or.inl ⟨m', n', fun r q1 q2 => g1 r q1 (by omega), g2, g3, k1⟩
  · rw [eR] at k1
    exact Or.inr ⟨m', n', g1, g2, g3, k1⟩
end LMRZ2
