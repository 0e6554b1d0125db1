/-! ===== Dsa: splitTop of the class; the halves ===== -/
/-- the high part and the low part of a number below q -/
def lm_tH (r : Nat) : Nat := (r + 4095) / 8192
def lm_tL (r : Nat) : Int := (r : Int) - 8192 * (lm_tH r : Int)
theorem lm_tL_b (r : Nat) : -4095 ≤ lm_tL r ∧ lm_tL r ≤ 4096 := by
  unfold lm_tL lm_tH
  omega
theorem lm_tH_b {r : Nat} (h : r < 8380417) : lm_tH r < 1024 := by
  unfold lm_tH
  omega
section LMDQ
variable {sc : lm_H} {d l q v i : Nat} {m : lm_MI} {n : lm_ML} {x : lm_H × Nat × Nat} {T S : Nat → Int}
/-- the number that is split -/
def lm_tr (T S : Nat → Int) (c : Nat) : Nat := ((T c + S c) % 8380417).toNat
theorem lm_tr_lt {c : Nat} : lm_tr T S c < 8380417 := by
  unfold lm_tr
  have := Int.emod_nonneg (T c + S c) (show (8380417 : Int) ≠ 0 by decide)
  have := Int.emod_lt_of_pos (T c + S c) (show (0 : Int) < 8380417 by decide)
  omega
theorem lm_tr_e {c : Nat} : Int32.ofInt ((T c + S c) % 8380417) = Int32.ofNat (lm_tr T S c) := by
  unfold lm_tr
  rw [lm_oN, Int.toNat_of_nonneg (Int.emod_nonneg _ (by decide))]
theorem lm_u239 (hl : m 76 19 = Int32.ofNat l) (hl2 : l ≤ 7) (hi : i < 8) (hq : lm_ar q = some (1, v)) (hv : v ≤ 70000) (hq2 : q < 76) (hqv : 32 + 320 * i + 320 ≤ v) (hT : ∀ c, c < 256 → m (152 + i) c = Int32.ofInt (T c)) (hS : ∀ c, c < 256 → m (136 + (l + i)) c = Int32.ofInt (S c)) (bT : lm_bnd 8380417 T) (bS : lm_bnd 8380417 S) : ∃ m', lm_cal sc (d + 2) 239 [.ref 76, .int (Int32.ofNat i), .ref q] (lm_w m n x) = some (.ok none, lm_w m' n x) ∧ (∀ r, r ≠ 186 → r ≠ 152 + i → r ≠ q → m' r = m r) ∧ (∀ c, c < 256 → m' 186 c = Int32.ofInt (lm_tL (lm_tr T S c))) ∧ (∀ j, j < 32 + 320 * i ∨ 32 + 320 * i + 320 ≤ j → m' q j = m q j) ∧ ∀ j, j < 320 → lm_yb (m' q (32 + 320 * i + j)) = ln_bv (lm_ts (fun c => lm_tH (lm_tr T S c)) 10) (8 * j) 8 := by
  have aT := lm_arT i hi
  have aS := lm_arS (l + i) (by omega)
  obtain ⟨m1, n1, ⟨en, h0, h1, h2, h3⟩, k1⟩ := lm_lp (sc := sc) (d := d + 1) (b := 256) (hs := lm_m239.2.2.2.2.1) (code := lm_reg lm_m239.2.2.2.2.2) (x := x) (fr := fun c => (7, [(0, .ref 76), (1, .int (Int32.ofNat i)), (2, .ref q), (3, .int (Int32.ofNat 4096)), (4, .int (Int32.ofNat c))], [])) (I := fun c m' n' => n' = n ∧ (∀ r, r ≠ 186 → r ≠ 152 + i → m' r = m r) ∧ (∀ c', c' < c → m' 186 c' = Int32.ofInt (lm_tL (lm_tr T S c'))) ∧ (∀ c', c' < c → m' (152 + i) c' = Int32.ofNat (lm_tH (lm_tr T S c'))) ∧ ∀ c', c ≤ c' → m' (152 + i) c' = m (152 + i) c') (fun c hc m1 n1 ⟨en, h0, h1, h2, h3⟩ => by
    have bt := bT c hc
    have bs := bS c hc
    have hr := lm_tr_lt (T := T) (S := S) (c := c)
    have e76 : m1 76 19 = Int32.ofNat l := by rw [h0 76 (by decide) (by omega)]; exact hl
    have eT : m1 (152 + i) c = Int32.ofInt (T c) := by rw [h3 c (by omega)]; exact hT c hc
    have eS : m1 (136 + (l + i)) c = Int32.ofInt (S c) := by rw [h0 _ (by omega) (by omega)]; exact hS c hc
    have c9 := lm_u286 (sc := sc) (d := d) (σ := lm_w m1 n1 x) (a := T c + S c) (q := 8380417) (by omega) (by omega) (by decide) (by decide)
    rw [lm_tr_e] at c9
    have eH : ((Int32.ofNat (lm_tr T S c) + Int32.ofNat 4096) - Int32.ofInt 1) >>> ((Int32.ofInt 13) &&& 31) = Int32.ofNat (lm_tH (lm_tr T S c)) := by
      rw [lm_oo, lm_K1, lm_osu (by omega), show Int32.ofInt 13 = Int32.ofNat 13 from rfl, lm_srN (by decide) (by omega)]
      rfl
    have hH := lm_tH_b hr
    have eL : Int32.ofNat (lm_tr T S c) - (Int32.ofNat (lm_tH (lm_tr T S c)) <<< ((Int32.ofInt 13) &&& 31)) = Int32.ofInt (lm_tL (lm_tr T S c)) := by
      rw [show Int32.ofInt 13 = Int32.ofNat 13 from rfl, lm_slN (by decide) (by omega) (by omega), lm_oN, lm_oN, lm_iS]
      congr 1
      unfold lm_tL
      omega
    refine ⟨lm_u (lm_u m1 186 c (Int32.ofInt (lm_tL (lm_tr T S c)))) (152 + i) c (Int32.ofNat (lm_tH (lm_tr T S c))), n1, ⟨en, fun q q1 q2 => by rw [lm_u_row q2, lm_u_row q1, h0 q q1 q2], fun c' hc' => ?_, fun c' hc' => ?_, fun c' hc' => ?_⟩, fun R K => lm_e239_7 ?_⟩
    · rw [lm_u_row (by omega)]
      by_cases c0 : c' = c
      · subst c0; rw [lm_u_eq]
      · rw [lm_u_ne (by omega)]; exact h1 c' (by omega)
    · by_cases c0 : c' = c
      · subst c0; rw [lm_u_eq]
      · rw [lm_u_ne (by omega), lm_u_row (by omega)]; exact h2 c' (by omega)
    · rw [lm_u_ne (by omega), lm_u_row (by omega)]; exact h3 c' (by omega)
    · unfold lm_q239_7
      rw [lm_K256]
      refine lm_geF (by omega) (by omega) (by omega) ?_
      repeat (first
    | ((with_reducible apply lm_sI); exact rfl)
    | ((with_reducible apply lm_sR); exact rfl)
    | ((with_reducible apply lm_sS); exact rfl; exact rfl)
    | ((with_reducible apply lm_sL); exact rfl)
    | ((with_reducible apply lm_sP); exact rfl; exact rfl)
    | ((with_reducible apply lm_sPL); exact rfl; exact rfl)
    | ((with_reducible apply lm_sAA); exact rfl; exact rfl)
    | ((with_reducible apply lm_sA); (first | exact rfl | assumption); omega)
    | ((with_reducible apply lm_sJ); (first | exact rfl | assumption); omega)
    | ((with_reducible apply lm_sB); (first | exact rfl | assumption); omega)
    | ((with_reducible apply lm_wA); (first | exact rfl | assumption); omega)
    | ((with_reducible apply lm_wJ); (first | exact rfl | assumption); omega)
    | ((with_reducible apply lm_wB); (first | exact rfl | assumption); omega)
    | ((with_reducible apply lm_sAl); (first | exact rfl | assumption); omega)
    | ((with_reducible apply lm_iW); decide))
      refine lm_sAA rfl (lm_roT i hi) ?_
      repeat (first
    | ((with_reducible apply lm_sI); exact rfl)
    | ((with_reducible apply lm_sR); exact rfl)
    | ((with_reducible apply lm_sS); exact rfl; exact rfl)
    | ((with_reducible apply lm_sL); exact rfl)
    | ((with_reducible apply lm_sP); exact rfl; exact rfl)
    | ((with_reducible apply lm_sPL); exact rfl; exact rfl)
    | ((with_reducible apply lm_sAA); exact rfl; exact rfl)
    | ((with_reducible apply lm_sA); (first | exact rfl | assumption); omega)
    | ((with_reducible apply lm_sJ); (first | exact rfl | assumption); omega)
    | ((with_reducible apply lm_sB); (first | exact rfl | assumption); omega)
    | ((with_reducible apply lm_wA); (first | exact rfl | assumption); omega)
    | ((with_reducible apply lm_wJ); (first | exact rfl | assumption); omega)
    | ((with_reducible apply lm_wB); (first | exact rfl | assumption); omega)
    | ((with_reducible apply lm_sAl); (first | exact rfl | assumption); omega)
    | ((with_reducible apply lm_iW); decide))
      simp only [Nat.reduceDiv, Nat.reduceMod]
      rw [e76, lm_oo]
      refine lm_sAA rfl (lm_roS (l + i) (by omega)) ?_
      repeat (first
    | ((with_reducible apply lm_sI); exact rfl)
    | ((with_reducible apply lm_sR); exact rfl)
    | ((with_reducible apply lm_sS); exact rfl; exact rfl)
    | ((with_reducible apply lm_sL); exact rfl)
    | ((with_reducible apply lm_sP); exact rfl; exact rfl)
    | ((with_reducible apply lm_sPL); exact rfl; exact rfl)
    | ((with_reducible apply lm_sAA); exact rfl; exact rfl)
    | ((with_reducible apply lm_sA); (first | exact rfl | assumption); omega)
    | ((with_reducible apply lm_sJ); (first | exact rfl | assumption); omega)
    | ((with_reducible apply lm_sB); (first | exact rfl | assumption); omega)
    | ((with_reducible apply lm_wA); (first | exact rfl | assumption); omega)
    | ((with_reducible apply lm_wJ); (first | exact rfl | assumption); omega)
    | ((with_reducible apply lm_wB); (first | exact rfl | assumption); omega)
    | ((with_reducible apply lm_sAl); (first | exact rfl | assumption); omega)
    | ((with_reducible apply lm_iW); decide))
      rw [eT, eS, lm_iA]
      refine lm_cI c9 ?_
      rw [eH, eL]
      repeat (first
    | ((with_reducible apply lm_sI); exact rfl)
    | ((with_reducible apply lm_sR); exact rfl)
    | ((with_reducible apply lm_sS); exact rfl; exact rfl)
    | ((with_reducible apply lm_sL); exact rfl)
    | ((with_reducible apply lm_sP); exact rfl; exact rfl)
    | ((with_reducible apply lm_sPL); exact rfl; exact rfl)
    | ((with_reducible apply lm_sAA); exact rfl; exact rfl)
    | ((with_reducible apply lm_sA); (first | exact rfl | assumption); omega)
    | ((with_reducible apply lm_sJ); (first | exact rfl | assumption); omega)
    | ((with_reducible apply lm_sB); (first | exact rfl | assumption); omega)
    | ((with_reducible apply lm_wA); (first | exact rfl | assumption); omega)
    | ((with_reducible apply lm_wJ); (first | exact rfl | assumption); omega)
    | ((with_reducible apply lm_wB); (first | exact rfl | assumption); omega)
    | ((with_reducible apply lm_sAl); (first | exact rfl | assumption); omega)
    | ((with_reducible apply lm_iW); decide))
      refine lm_sAA rfl (lm_roT i hi) ?_
      repeat (first
    | ((with_reducible apply lm_sI); exact rfl)
    | ((with_reducible apply lm_sR); exact rfl)
    | ((with_reducible apply lm_sS); exact rfl; exact rfl)
    | ((with_reducible apply lm_sL); exact rfl)
    | ((with_reducible apply lm_sP); exact rfl; exact rfl)
    | ((with_reducible apply lm_sPL); exact rfl; exact rfl)
    | ((with_reducible apply lm_sAA); exact rfl; exact rfl)
    | ((with_reducible apply lm_sA); (first | exact rfl | assumption); omega)
    | ((with_reducible apply lm_sJ); (first | exact rfl | assumption); omega)
    | ((with_reducible apply lm_sB); (first | exact rfl | assumption); omega)
    | ((with_reducible apply lm_wA); (first | exact rfl | assumption); omega)
    | ((with_reducible apply lm_wJ); (first | exact rfl | assumption); omega)
    | ((with_reducible apply lm_wB); (first | exact rfl | assumption); omega)
    | ((with_reducible apply lm_sAl); (first | exact rfl | assumption); omega)
    | ((with_reducible apply lm_iW); decide))
      rw [lm_K1, lm_oo]
      exact K) 256 0 (by omega) m n ⟨rfl, fun _ _ _ => rfl, fun c' hc' => absurd hc' (by omega), fun c' hc' => absurd hc' (by omega), fun _ _ => rfl⟩
  subst en
  obtain ⟨m2, c2, p2⟩ := lm_u219 (sc := sc) (e := d) (n := n1) (x := x) (m := m1) (p := 152 + i) (q := q) (v := v) (a := 32 + 320 * i) (d := 10) (F := fun c => lm_tH (lm_tr T S c)) hq aT (by omega) (by decide) (by decide) hv (by omega) (fun c hc => ⟨h2 c hc, lm_tH_b lm_tr_lt⟩)
  refine ⟨m2, ?_, fun r r1 r2 r3 => by rw [p2.1 r r3, h0 r r1 r2], fun c hc => by rw [p2.1 186 (by omega)]; exact h1 c hc, fun j hj => by rw [p2.2.1 j (by omega), h0 q (by omega) (by omega)], fun j hj => p2.2.2 j (by omega)⟩
  refine lm_cal_of (Y := lm_m239) rfl rfl (lm_e239_0 ?_)
  unfold lm_q239_0
  rw [lm_K0, lm_K4096]
  refine k1 _ (lm_e239_7 ?_)
  unfold lm_q239_7
  rw [lm_K256, lm_K10, lm_K32, lm_K320]
  refine lm_geT (by omega) (by omega) (by omega) ?_
  repeat (first
    | ((with_reducible apply lm_sI); exact rfl)
    | ((with_reducible apply lm_sR); exact rfl)
    | ((with_reducible apply lm_sS); exact rfl; exact rfl)
    | ((with_reducible apply lm_sL); exact rfl)
    | ((with_reducible apply lm_sP); exact rfl; exact rfl)
    | ((with_reducible apply lm_sPL); exact rfl; exact rfl)
    | ((with_reducible apply lm_sAA); exact rfl; exact rfl)
    | ((with_reducible apply lm_sA); (first | exact rfl | assumption); omega)
    | ((with_reducible apply lm_sJ); (first | exact rfl | assumption); omega)
    | ((with_reducible apply lm_sB); (first | exact rfl | assumption); omega)
    | ((with_reducible apply lm_wA); (first | exact rfl | assumption); omega)
    | ((with_reducible apply lm_wJ); (first | exact rfl | assumption); omega)
    | ((with_reducible apply lm_wB); (first | exact rfl | assumption); omega)
    | ((with_reducible apply lm_sAl); (first | exact rfl | assumption); omega)
    | ((with_reducible apply lm_iW); decide))
  refine lm_sAA rfl (lm_roT i hi) ?_
  rw [lm_om, lm_oo]
  exact lm_cV c2 rfl
end LMDQ
