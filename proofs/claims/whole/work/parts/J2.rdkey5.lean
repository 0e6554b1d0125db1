/-! ===== dsaKeys of the reference: the halves of a row ===== -/
theorem lm_tL_a {r : Nat} (h : r % 8192 ≤ 4096) : ((r % 8192 : Nat) : Int) = lm_tL r := by
  unfold lm_tL lm_tH
  omega
theorem lm_tL_c {r : Nat} (h : ¬ r % 8192 ≤ 4096) : ((r % 8192 : Nat) : Int) + (-8192) = lm_tL r := by
  unfold lm_tL lm_tH
  omega
theorem lm_tHe (r : Nat) : (r : Int) - lm_tL r = ((8192 * lm_tH r : Nat) : Int) := by
  unfold lm_tL
  omega
section LMRM
variable {sc : lm_H} {d s : Nat} {m : lm_MI} {n : lm_ML} {x : lm_H × Nat × Nat} {x4 : Int32} {Rr : Nat → Nat → Nat} {T S : Nat → Int}
theorem lm_l28e {l i : Nat} (hl : l ≤ 7) (hi : i < 8) (h42 : m 203 42 = Int32.ofNat l) (hT : ∀ c, c < 256 → m 310 c = Int32.ofInt (T c) ∧ 0 ≤ T c ∧ T c ≤ 8380416) (hS : ∀ c, c < 256 → m (270 + (l + i)) c = Int32.ofInt (S c) ∧ -4 ≤ S c ∧ S c ≤ 4) (hR : ∀ c, c < 256 → lm_tr T S c = Rr i c) (h24 : m 203 24 = Int32.ofNat (10 * (256 * i + 0))) (hP : lm_PB m 328 0 (10 * (256 * i + 0)) (lm_ts (lm_Fg (fun i c => ((lm_tH (Rr i c) : Nat) : Int))) 10)) : ∃ m', (∀ r, r ≠ 203 → r ≠ 328 → r ≠ 270 + (20 + i) → m' r = m r) ∧ (∀ j, j ≠ 24 → m' 203 j = m 203 j) ∧ m' 203 24 = Int32.ofNat (10 * (256 * i + 256)) ∧ lm_PB m' 328 0 (10 * (256 * i + 256)) (lm_ts (lm_Fg (fun i c => ((lm_tH (Rr i c) : Nat) : Int))) 10) ∧ (∀ c, c < 256 → m' (270 + (20 + i)) c = Int32.ofInt (lm_tL (Rr i c))) ∧ ∀ R, lm_rn sc (d + 6) lm_m28.2.2.2.2.1 (lm_reg lm_m28.2.2.2.2.2) (377, [(0, .ref 203), (4, .int x4), (5, .int (Int32.ofNat i)), (6, .int (Int32.ofNat 256))], []) (lm_w m' n x) = some R → lm_rn sc (d + 6) lm_m28.2.2.2.2.1 (lm_reg lm_m28.2.2.2.2.2) (377, [(0, .ref 203), (4, .int x4), (5, .int (Int32.ofNat i)), (6, .int (Int32.ofNat 0))], []) (lm_w m n x) = some R := by
  have aY := lm_arY (l + i) (by omega)
  have aZ := lm_arY (20 + i) (by omega)
  obtain ⟨m', n', ⟨en, h1, h2, h3, h4, h5⟩, k1⟩ := lm_lp (sc := sc) (d := d + 6) (b := 256) (hs := lm_m28.2.2.2.2.1) (code := lm_reg lm_m28.2.2.2.2.2) (x := x) (fr := fun c => (377, [(0, .ref 203), (4, .int x4), (5, .int (Int32.ofNat i)), (6, .int (Int32.ofNat c))], [])) (I := fun c m' n' => n' = n ∧ (∀ r, r ≠ 203 → r ≠ 328 → r ≠ 270 + (20 + i) → m' r = m r) ∧ (∀ j, j ≠ 24 → m' 203 j = m 203 j) ∧ m' 203 24 = Int32.ofNat (10 * (256 * i + c)) ∧ lm_PB m' 328 0 (10 * (256 * i + c)) (lm_ts (lm_Fg (fun i c => ((lm_tH (Rr i c) : Nat) : Int))) 10) ∧ (∀ c', c' < c → m' (270 + (20 + i)) c' = Int32.ofInt (lm_tL (Rr i c')))) (fun c hc m1 n1 ⟨en, h1, h2, h3, h4, h5⟩ => by
    have hr := lm_tr_lt (T := T) (S := S) (c := c)
    have bT := hT c hc
    have bS := hS c hc
    have e42 : m1 203 42 = Int32.ofNat l := by rw [h2 42 (by decide)]; exact h42
    have eT : m1 310 c = Int32.ofInt (T c) := by rw [h1 310 (by decide) (by decide) (by omega)]; exact bT.1
    have eS : m1 (270 + (l + i)) c = Int32.ofInt (S c) := by rw [h1 _ (by omega) (by omega) (by omega)]; exact bS.1
    have ev : lm_rem ((m1 310 c + m1 (270 + (l + i)) c) + Int32.ofInt 8380417) (Int32.ofInt 8380417) = Int32.ofNat (Rr i c) := by
      rw [eT, eS, lm_iA, lm_iA, lm_iR (by omega) (by omega) (by decide) (by decide), Int.tmod_eq_emod_of_nonneg (by omega), Int.add_emod_right, lm_tr_e, hR c hc]
    rw [hR c hc] at hr
    generalize eM : lm_u m1 (270 + (20 + i)) c (Int32.ofInt (lm_tL (Rr i c))) = M
    have rM : ∀ r, r ≠ 270 + (20 + i) → M r = m1 r := fun r hr => by rw [← eM, lm_u_row hr]
    have hH := lm_tH_b hr
    obtain ⟨m4, c4, p4, t4, f4, o4, _⟩ := lm_put1 (sc := sc) (d := d + 5) (m := M) (n := n1) (x := x) (q := 328) (v := 8192) (F := lm_Fg (fun i c => ((lm_tH (Rr i c) : Nat) : Int))) (c := 256 * i + c) (w := 10) rfl (by decide) (by decide) (by rw [rM 203 (by omega)]; exact h3) (by omega) (by decide) (by decide) ⟨fun t ht => by rw [rM 328 (by omega)]; exact h4.1 t ht, fun t a b c => by rw [rM 328 (by omega)]; exact h4.2 t a b c⟩ (by rw [lm_Fg_at hc]; exact hH)
    rw [lm_Fg_at hc] at c4
    refine ⟨m4, n1, ⟨en, fun r r1 r2 r3 => by rw [f4 r r1 r2, rM r r3, h1 r r1 r2 r3], fun j hj => by rw [o4 j hj, rM 203 (by omega), h2 j hj], t4, p4, fun c' hc' => ?_⟩, fun R K => ?_⟩
    · rw [f4 _ (by omega) (by omega), ← eM]
      by_cases c0 : c' = c
      · subst c0; rw [lm_u_eq]
      · rw [lm_u_ne (by omega)]; exact h5 c' (by omega)
    · clear h4 h5 p4
      have fin : ∀ w, w = Int32.ofInt (lm_tL (Rr i c)) → lm_rn sc (d + 6) lm_m28.2.2.2.2.1 (lm_reg lm_m28.2.2.2.2.2) (443, [(0, .ref 203), (4, .int x4), (5, .int (Int32.ofNat i)), (6, .int (Int32.ofNat c)), (7, .int (Int32.ofNat (Rr i c))), (8, .int w)], []) (lm_w m1 n1 x) = some R := by
        intro w hw
        subst hw
        refine lm_e28_443 ?_
        unfold lm_q28_443
        rw [show Int32.ofInt 20 = Int32.ofNat 20 from rfl, lm_oo, lm_K0, lm_K10]
        repeat (first
    | ((with_reducible apply lm_sI); exact rfl)
    | ((with_reducible apply lm_sR); exact rfl)
    | ((with_reducible apply lm_sS); exact rfl; exact rfl)
    | ((with_reducible apply lm_sL); exact rfl)
    | ((with_reducible apply lm_sP); exact rfl; exact rfl)
    | ((with_reducible apply lm_sPL); exact rfl; exact rfl)
    | ((with_reducible apply lm_sAA); exact rfl; exact rfl)
    | ((with_reducible apply lm_sA); (first | exact rfl | assumption); omega)
    | ((with_reducible apply lm_sJ); (first | exact rfl | assumption); omega)
    | ((with_reducible apply lm_sB); (first | exact rfl | assumption); omega)
    | ((with_reducible apply lm_wA); (first | exact rfl | assumption); omega)
    | ((with_reducible apply lm_wJ); (first | exact rfl | assumption); omega)
    | ((with_reducible apply lm_wB); (first | exact rfl | assumption); omega)
    | ((with_reducible apply lm_sAl); (first | exact rfl | assumption); omega)
    | ((with_reducible apply lm_iW); decide))
        refine lm_sAA rfl (lm_roY (20 + i) (by omega)) ?_
        repeat (first
    | ((with_reducible apply lm_sI); exact rfl)
    | ((with_reducible apply lm_sR); exact rfl)
    | ((with_reducible apply lm_sS); exact rfl; exact rfl)
    | ((with_reducible apply lm_sL); exact rfl)
    | ((with_reducible apply lm_sP); exact rfl; exact rfl)
    | ((with_reducible apply lm_sPL); exact rfl; exact rfl)
    | ((with_reducible apply lm_sAA); exact rfl; exact rfl)
    | ((with_reducible apply lm_sA); (first | exact rfl | assumption); omega)
    | ((with_reducible apply lm_sJ); (first | exact rfl | assumption); omega)
    | ((with_reducible apply lm_sB); (first | exact rfl | assumption); omega)
    | ((with_reducible apply lm_wA); (first | exact rfl | assumption); omega)
    | ((with_reducible apply lm_wJ); (first | exact rfl | assumption); omega)
    | ((with_reducible apply lm_wB); (first | exact rfl | assumption); omega)
    | ((with_reducible apply lm_sAl); (first | exact rfl | assumption); omega)
    | ((with_reducible apply lm_iW); decide))
        rw [eM, show (Int32.ofNat (Rr i c) - Int32.ofInt (lm_tL (Rr i c))) / Int32.ofInt 8192 = Int32.ofNat (lm_tH (Rr i c)) by
          rw [lm_oN (Rr i c), lm_iS, lm_tHe, ← lm_oN, show Int32.ofInt 8192 = Int32.ofNat 8192 from rfl, lm_od (by omega) (by omega), Nat.mul_div_cancel_left _ (by decide)]]
        rw [Int.toNat_natCast] at c4
        refine lm_cV c4 ?_
        rw [lm_K1, lm_oo]
        exact K
      refine lm_e28_377 ?_
      rw [lm_K256]
      refine lm_geF (by omega) (by omega) (by omega) ?_
      rw [show Int32.ofInt 40 = Int32.ofNat 40 from rfl]
      repeat (first
    | ((with_reducible apply lm_sI); exact rfl)
    | ((with_reducible apply lm_sR); exact rfl)
    | ((with_reducible apply lm_sS); exact rfl; exact rfl)
    | ((with_reducible apply lm_sL); exact rfl)
    | ((with_reducible apply lm_sP); exact rfl; exact rfl)
    | ((with_reducible apply lm_sPL); exact rfl; exact rfl)
    | ((with_reducible apply lm_sAA); exact rfl; exact rfl)
    | ((with_reducible apply lm_sA); (first | exact rfl | assumption); omega)
    | ((with_reducible apply lm_sJ); (first | exact rfl | assumption); omega)
    | ((with_reducible apply lm_sB); (first | exact rfl | assumption); omega)
    | ((with_reducible apply lm_wA); (first | exact rfl | assumption); omega)
    | ((with_reducible apply lm_wJ); (first | exact rfl | assumption); omega)
    | ((with_reducible apply lm_wB); (first | exact rfl | assumption); omega)
    | ((with_reducible apply lm_sAl); (first | exact rfl | assumption); omega)
    | ((with_reducible apply lm_iW); decide))
      simp only [Nat.reduceDiv, Nat.reduceMod]
      rw [e42, lm_oo]
      refine lm_sAA rfl (lm_roY (l + i) (by omega)) ?_
      repeat (first
    | ((with_reducible apply lm_sI); exact rfl)
    | ((with_reducible apply lm_sR); exact rfl)
    | ((with_reducible apply lm_sS); exact rfl; exact rfl)
    | ((with_reducible apply lm_sL); exact rfl)
    | ((with_reducible apply lm_sP); exact rfl; exact rfl)
    | ((with_reducible apply lm_sPL); exact rfl; exact rfl)
    | ((with_reducible apply lm_sAA); exact rfl; exact rfl)
    | ((with_reducible apply lm_sA); (first | exact rfl | assumption); omega)
    | ((with_reducible apply lm_sJ); (first | exact rfl | assumption); omega)
    | ((with_reducible apply lm_sB); (first | exact rfl | assumption); omega)
    | ((with_reducible apply lm_wA); (first | exact rfl | assumption); omega)
    | ((with_reducible apply lm_wJ); (first | exact rfl | assumption); omega)
    | ((with_reducible apply lm_wB); (first | exact rfl | assumption); omega)
    | ((with_reducible apply lm_sAl); (first | exact rfl | assumption); omega)
    | ((with_reducible apply lm_iW); decide))
      rw [ev, lm_t28b_e]
      refine lm_iW (by decide) ?_
      rw [show Int32.ofNat (Rr i c) - Int32.ofNat (Rr i c) / Int32.ofInt 8192 * Int32.ofInt 8192 = Int32.ofNat (Rr i c % 8192) by
        rw [show Int32.ofInt 8192 = Int32.ofNat 8192 from rfl]
        exact lm_orm (b := 8192) (by omega) (by decide), lm_t28c_e, show Int32.ofInt 4096 = Int32.ofNat 4096 from rfl]
      by_cases c8 : Rr i c % 8192 ≤ 4096
      · refine lm_leT (by omega) (by omega) c8 ?_
        exact fin _ (by rw [lm_oN, lm_tL_a c8])
      · refine lm_leF (by omega) (by omega) c8 ?_
        exact fin _ (by rw [lm_oN, lm_iA, lm_tL_c c8])) 256 0 (by omega) m n ⟨rfl, fun _ _ _ _ => rfl, fun _ _ => rfl, h24, hP, fun c' hc' => absurd hc' (by omega)⟩
  subst en
  exact ⟨m', h1, h2, h3, h4, h5, k1⟩
end LMRM
