/-! ===== SLH of the reference: digits, from a leaf to the root ===== -/
section LMUA
variable {sc : lm_H} {d N : Nat} {W : lm_WT} {m m' : lm_MI} {n n' : lm_ML} {x : lm_H × Nat × Nat} {V A : Nat → Int32} {ty u : Int32} {p w b q v a I lv : Nat}
def lm_I189 (V : Nat → Int32) (m0 : lm_MI) (n0 : lm_ML) (i : Nat) (m : lm_MI) (n : lm_ML) : Prop := n = n0 ∧ (∀ r, r ≠ 357 → m r = m0 r) ∧ ∀ j, j < i → m 357 j = Int32.ofNat (lm_nbl V j)
theorem lm_l189 {m0 : lm_MI} {n0 : lm_ML} (hN : N ≤ 32) (h4 : m0 203 67 = Int32.ofNat N) (hq : lm_ar q = some (1, v)) (gq : q ≠ 357) (hav : a + N ≤ v) (hv : v ≤ 70000) (hV : ∀ t, t < N → lm_b8 (m0 q (a + t)) = V t) : ∀ i, i < 2 * N → ∀ m n, lm_I189 V m0 n0 i m n → ∃ m' n', lm_I189 V m0 n0 (i + 1) m' n' ∧ ∀ R, lm_rn sc d lm_m189.2.2.2.2.1 (lm_reg lm_m189.2.2.2.2.2) (5, [(0, .ref 203), (1, .ref q), (2, .int (Int32.ofNat a)), (3, .int (Int32.ofNat (lm_nsm V (i + 1)))), (4, .int (Int32.ofNat (i + 1)))], []) (lm_w m' n' x) = some R → lm_rn sc d lm_m189.2.2.2.2.1 (lm_reg lm_m189.2.2.2.2.2) (5, [(0, .ref 203), (1, .ref q), (2, .int (Int32.ofNat a)), (3, .int (Int32.ofNat (lm_nsm V i))), (4, .int (Int32.ofNat i))], []) (lm_w m n x) = some R := by
  intro i hi m n ⟨i0, i1, i2⟩
  have hlt := lm_nbl_lt (V := V) (i := i)
  have hsm := lm_nsm_le (V := V) i
  refine ⟨lm_u m 357 i (Int32.ofNat (lm_nbl V i)), n, ⟨i0, fun r hr => by rw [lm_u_row hr, i1 r hr], fun j hj => ?_⟩, fun R KK => ?_⟩
  · by_cases c : j = i
    · rw [c, lm_u_eq]
    · rw [lm_u_ne (fun g => c g.2), i2 j (by omega)]
  · have hnib : (lm_b8 (m q (a + i / 2)) >>> (Int32.ofNat (if i % 2 = 0 then 4 else 0) &&& 31)) &&& Int32.ofInt 15 = Int32.ofNat (lm_nbl V i) := by
      rw [lm_nib _ (by split <;> decide)]
      unfold lm_nbl
      rw [← hV (i / 2) (by omega), lm_yb_b8, i1 q gq]
    have e56 : lm_rn sc d lm_m189.2.2.2.2.1 (lm_reg lm_m189.2.2.2.2.2) (56, [(0, .ref 203), (1, .ref q), (2, .int (Int32.ofNat a)), (3, .int (Int32.ofNat (lm_nsm V i))), (4, .int (Int32.ofNat i))], [.int (Int32.ofNat (lm_nbl V i)), .int (Int32.ofNat i), .ref 357]) (lm_w m n x) = some R := by
      refine lm_e189_56 ?_
      unfold lm_q189_56
      rw [lm_K1, lm_oo, show Int32.ofInt 15 = Int32.ofNat 15 from rfl]
      repeat (first
    | ((with_reducible apply lm_sI); exact rfl)
    | ((with_reducible apply lm_sR); exact rfl)
    | ((with_reducible apply lm_sS); exact rfl; exact rfl)
    | ((with_reducible apply lm_sL); exact rfl)
    | ((with_reducible apply lm_sP); exact rfl; exact rfl)
    | ((with_reducible apply lm_sPL); exact rfl; exact rfl)
    | ((with_reducible apply lm_sAA); exact rfl; exact rfl)
    | ((with_reducible apply lm_sA); (first | exact rfl | assumption); omega)
    | ((with_reducible apply lm_sJ); (first | exact rfl | assumption); omega)
    | ((with_reducible apply lm_sB); (first | exact rfl | assumption); omega)
    | ((with_reducible apply lm_wA); (first | exact rfl | assumption); omega)
    | ((with_reducible apply lm_wJ); (first | exact rfl | assumption); omega)
    | ((with_reducible apply lm_wB); (first | exact rfl | assumption); omega)
    | ((with_reducible apply lm_sAl); (first | exact rfl | assumption); omega)
    | ((with_reducible apply lm_iW); decide))
      rw [lm_u_eq, lm_osu (by omega), lm_oo]
      exact KK
    refine lm_e189_5 ?_
    unfold lm_q189_5
    rw [lm_K2, lm_orm (by omega) (by decide), lm_od (by omega) (by decide), lm_oo]
    repeat (first
    | ((with_reducible apply lm_sI); exact rfl)
    | ((with_reducible apply lm_sR); exact rfl)
    | ((with_reducible apply lm_sS); exact rfl; exact rfl)
    | ((with_reducible apply lm_sL); exact rfl)
    | ((with_reducible apply lm_sP); exact rfl; exact rfl)
    | ((with_reducible apply lm_sPL); exact rfl; exact rfl)
    | ((with_reducible apply lm_sAA); exact rfl; exact rfl)
    | ((with_reducible apply lm_sA); (first | exact rfl | assumption); omega)
    | ((with_reducible apply lm_sJ); (first | exact rfl | assumption); omega)
    | ((with_reducible apply lm_sB); (first | exact rfl | assumption); omega)
    | ((with_reducible apply lm_wA); (first | exact rfl | assumption); omega)
    | ((with_reducible apply lm_wJ); (first | exact rfl | assumption); omega)
    | ((with_reducible apply lm_wB); (first | exact rfl | assumption); omega)
    | ((with_reducible apply lm_sAl); (first | exact rfl | assumption); omega)
    | ((with_reducible apply lm_iW); decide))
    simp only [Nat.reduceDiv, Nat.reduceMod]
    rw [i1 203 (by decide), h4, lm_om]
    refine lm_geF (by omega) (by omega) (by omega) ?_
    repeat (first
    | ((with_reducible apply lm_sI); exact rfl)
    | ((with_reducible apply lm_sR); exact rfl)
    | ((with_reducible apply lm_sS); exact rfl; exact rfl)
    | ((with_reducible apply lm_sL); exact rfl)
    | ((with_reducible apply lm_sP); exact rfl; exact rfl)
    | ((with_reducible apply lm_sPL); exact rfl; exact rfl)
    | ((with_reducible apply lm_sAA); exact rfl; exact rfl)
    | ((with_reducible apply lm_sA); (first | exact rfl | assumption); omega)
    | ((with_reducible apply lm_sJ); (first | exact rfl | assumption); omega)
    | ((with_reducible apply lm_sB); (first | exact rfl | assumption); omega)
    | ((with_reducible apply lm_wA); (first | exact rfl | assumption); omega)
    | ((with_reducible apply lm_wJ); (first | exact rfl | assumption); omega)
    | ((with_reducible apply lm_wB); (first | exact rfl | assumption); omega)
    | ((with_reducible apply lm_sAl); (first | exact rfl | assumption); omega)
    | ((with_reducible apply lm_iW); decide))
    by_cases c : i % 2 = 0
    · rw [if_pos c] at hnib
      rw [c]
      refine lm_iF (show ¬ ¬ Int32.ofNat 0 = 0 by decide) ?_
      repeat (first
    | ((with_reducible apply lm_sI); exact rfl)
    | ((with_reducible apply lm_sR); exact rfl)
    | ((with_reducible apply lm_sS); exact rfl; exact rfl)
    | ((with_reducible apply lm_sL); exact rfl)
    | ((with_reducible apply lm_sP); exact rfl; exact rfl)
    | ((with_reducible apply lm_sPL); exact rfl; exact rfl)
    | ((with_reducible apply lm_sAA); exact rfl; exact rfl)
    | ((with_reducible apply lm_sA); (first | exact rfl | assumption); omega)
    | ((with_reducible apply lm_sJ); (first | exact rfl | assumption); omega)
    | ((with_reducible apply lm_sB); (first | exact rfl | assumption); omega)
    | ((with_reducible apply lm_wA); (first | exact rfl | assumption); omega)
    | ((with_reducible apply lm_wJ); (first | exact rfl | assumption); omega)
    | ((with_reducible apply lm_wB); (first | exact rfl | assumption); omega)
    | ((with_reducible apply lm_sAl); (first | exact rfl | assumption); omega)
    | ((with_reducible apply lm_iW); decide))
      rw [show Int32.ofInt 4 = Int32.ofNat 4 from rfl, hnib]
      exact e56
    · rw [if_neg c, show (Int32.ofNat 0 &&& 31 : Int32) = 0 from rfl, Int32.shiftRight_zero] at hnib
      rw [show i % 2 = 1 by omega]
      refine lm_iT (show ¬ Int32.ofNat 1 = 0 by decide) ?_
      repeat (first
    | ((with_reducible apply lm_sI); exact rfl)
    | ((with_reducible apply lm_sR); exact rfl)
    | ((with_reducible apply lm_sS); exact rfl; exact rfl)
    | ((with_reducible apply lm_sL); exact rfl)
    | ((with_reducible apply lm_sP); exact rfl; exact rfl)
    | ((with_reducible apply lm_sPL); exact rfl; exact rfl)
    | ((with_reducible apply lm_sAA); exact rfl; exact rfl)
    | ((with_reducible apply lm_sA); (first | exact rfl | assumption); omega)
    | ((with_reducible apply lm_sJ); (first | exact rfl | assumption); omega)
    | ((with_reducible apply lm_sB); (first | exact rfl | assumption); omega)
    | ((with_reducible apply lm_wA); (first | exact rfl | assumption); omega)
    | ((with_reducible apply lm_wJ); (first | exact rfl | assumption); omega)
    | ((with_reducible apply lm_wB); (first | exact rfl | assumption); omega)
    | ((with_reducible apply lm_sAl); (first | exact rfl | assumption); omega)
    | ((with_reducible apply lm_iW); decide))
      rw [hnib]
      exact e56
theorem lm_u189 (hN : N ≤ 32) (h4 : m 203 67 = Int32.ofNat N) (hq : lm_ar q = some (1, v)) (gq : q ≠ 357) (hav : a + N ≤ v) (hv : v ≤ 70000) (hV : ∀ t, t < N → lm_b8 (m q (a + t)) = V t) : ∃ m', lm_cal sc (d + 1) 189 [.ref 203, .ref q, .int (Int32.ofNat a)] (lm_w m n x) = some (.ok none, lm_w m' n x) ∧ (∀ r, r ≠ 357 → m' r = m r) ∧ ∀ j, j < 2 * N + 3 → m' 357 j = Int32.ofNat (lm_dgt N V j) := by
  obtain ⟨m1, n1, ⟨i0, i1, i2⟩, k1⟩ := lm_lp (fr := fun i => (5, [(0, .ref 203), (1, .ref q), (2, .int (Int32.ofNat a)), (3, .int (Int32.ofNat (lm_nsm V i))), (4, .int (Int32.ofNat i))], [])) (lm_l189 (sc := sc) (d := d) (x := x) (m0 := m) (n0 := n) hN h4 hq gq hav hv hV) (2 * N) 0 (Nat.zero_add _) m n ⟨rfl, fun _ _ => rfl, fun j hj => absurd hj (Nat.not_lt_zero _)⟩
  subst i0
  have hsm := lm_nsm_le (V := V) (2 * N)
  generalize eS : lm_nsm V (2 * N) = S at k1 hsm
  have e1 : S * 16 / 2 ^ 12 = S / 256 := by omega
  have e2 : S * 16 / 2 ^ 8 = S / 16 := by omega
  have e3 : S * 16 / 2 ^ 4 = S := by omega
  refine ⟨lm_u (lm_u (lm_u m1 357 (2 * N) (Int32.ofNat (S / 256 % 16))) 357 (2 * N + 1) (Int32.ofNat (S / 16 % 16))) 357 (2 * N + 2) (Int32.ofNat (S % 16)), ?_, fun r hr => by rw [lm_u_row hr, lm_u_row hr, lm_u_row hr, i1 r hr], fun j hj => ?_⟩
  · refine lm_cal_of (Y := lm_m189) rfl rfl (lm_e189_0 ?_)
    unfold lm_q189_0
    rw [lm_K0]
    refine k1 _ ?_
    refine lm_e189_5 ?_
    unfold lm_q189_5
    rw [lm_K1, lm_K2, lm_K16, lm_om, show Int32.ofInt 8 = Int32.ofNat 8 from rfl, show Int32.ofInt 4 = Int32.ofNat 4 from rfl, show Int32.ofInt 12 = Int32.ofNat 12 from rfl, lm_srN (a := S * 16) (b := 12) (by decide) (by omega), lm_srN (a := S * 16) (b := 8) (by decide) (by omega), lm_srN (a := S * 16) (b := 4) (by decide) (by omega), e1, e2, e3, lm_a15 (by omega), lm_a15 (by omega), lm_a15 (by omega)]
    repeat (first
    | ((with_reducible apply lm_sI); exact rfl)
    | ((with_reducible apply lm_sR); exact rfl)
    | ((with_reducible apply lm_sS); exact rfl; exact rfl)
    | ((with_reducible apply lm_sL); exact rfl)
    | ((with_reducible apply lm_sP); exact rfl; exact rfl)
    | ((with_reducible apply lm_sPL); exact rfl; exact rfl)
    | ((with_reducible apply lm_sAA); exact rfl; exact rfl)
    | ((with_reducible apply lm_sA); (first | exact rfl | assumption); omega)
    | ((with_reducible apply lm_sJ); (first | exact rfl | assumption); omega)
    | ((with_reducible apply lm_sB); (first | exact rfl | assumption); omega)
    | ((with_reducible apply lm_wA); (first | exact rfl | assumption); omega)
    | ((with_reducible apply lm_wJ); (first | exact rfl | assumption); omega)
    | ((with_reducible apply lm_wB); (first | exact rfl | assumption); omega)
    | ((with_reducible apply lm_sAl); (first | exact rfl | assumption); omega)
    | ((with_reducible apply lm_iW); decide))
    simp only [Nat.reduceDiv, Nat.reduceMod]
    rw [i1 203 (by decide), h4, lm_om]
    refine lm_geT (by omega) (by omega) (Nat.le_refl _) ?_
    repeat (first
    | ((with_reducible apply lm_sI); exact rfl)
    | ((with_reducible apply lm_sR); exact rfl)
    | ((with_reducible apply lm_sS); exact rfl; exact rfl)
    | ((with_reducible apply lm_sL); exact rfl)
    | ((with_reducible apply lm_sP); exact rfl; exact rfl)
    | ((with_reducible apply lm_sPL); exact rfl; exact rfl)
    | ((with_reducible apply lm_sAA); exact rfl; exact rfl)
    | ((with_reducible apply lm_sA); (first | exact rfl | assumption); omega)
    | ((with_reducible apply lm_sJ); (first | exact rfl | assumption); omega)
    | ((with_reducible apply lm_sB); (first | exact rfl | assumption); omega)
    | ((with_reducible apply lm_wA); (first | exact rfl | assumption); omega)
    | ((with_reducible apply lm_wJ); (first | exact rfl | assumption); omega)
    | ((with_reducible apply lm_wB); (first | exact rfl | assumption); omega)
    | ((with_reducible apply lm_sAl); (first | exact rfl | assumption); omega)
    | ((with_reducible apply lm_iW); decide))
    simp only [Nat.reduceDiv, Nat.reduceMod]
    rw [i1 203 (by decide), h4, lm_om]
    repeat (first
    | ((with_reducible apply lm_sI); exact rfl)
    | ((with_reducible apply lm_sR); exact rfl)
    | ((with_reducible apply lm_sS); exact rfl; exact rfl)
    | ((with_reducible apply lm_sL); exact rfl)
    | ((with_reducible apply lm_sP); exact rfl; exact rfl)
    | ((with_reducible apply lm_sPL); exact rfl; exact rfl)
    | ((with_reducible apply lm_sAA); exact rfl; exact rfl)
    | ((with_reducible apply lm_sA); (first | exact rfl | assumption); omega)
    | ((with_reducible apply lm_sJ); (first | exact rfl | assumption); omega)
    | ((with_reducible apply lm_sB); (first | exact rfl | assumption); omega)
    | ((with_reducible apply lm_wA); (first | exact rfl | assumption); omega)
    | ((with_reducible apply lm_wJ); (first | exact rfl | assumption); omega)
    | ((with_reducible apply lm_wB); (first | exact rfl | assumption); omega)
    | ((with_reducible apply lm_sAl); (first | exact rfl | assumption); omega)
    | ((with_reducible apply lm_iW); decide))
    simp only [Nat.reduceDiv, Nat.reduceMod]
    rw [lm_u_row (by decide), i1 203 (by decide), h4, lm_om, lm_oo]
    repeat (first
    | ((with_reducible apply lm_sI); exact rfl)
    | ((with_reducible apply lm_sR); exact rfl)
    | ((with_reducible apply lm_sS); exact rfl; exact rfl)
    | ((with_reducible apply lm_sL); exact rfl)
    | ((with_reducible apply lm_sP); exact rfl; exact rfl)
    | ((with_reducible apply lm_sPL); exact rfl; exact rfl)
    | ((with_reducible apply lm_sAA); exact rfl; exact rfl)
    | ((with_reducible apply lm_sA); (first | exact rfl | assumption); omega)
    | ((with_reducible apply lm_sJ); (first | exact rfl | assumption); omega)
    | ((with_reducible apply lm_sB); (first | exact rfl | assumption); omega)
    | ((with_reducible apply lm_wA); (first | exact rfl | assumption); omega)
    | ((with_reducible apply lm_wJ); (first | exact rfl | assumption); omega)
    | ((with_reducible apply lm_wB); (first | exact rfl | assumption); omega)
    | ((with_reducible apply lm_sAl); (first | exact rfl | assumption); omega)
    | ((with_reducible apply lm_iW); decide))
    simp only [Nat.reduceDiv, Nat.reduceMod]
    rw [lm_u_row (by decide), lm_u_row (by decide), i1 203 (by decide), h4, lm_om, lm_oo]
    repeat (first
    | ((with_reducible apply lm_sI); exact rfl)
    | ((with_reducible apply lm_sR); exact rfl)
    | ((with_reducible apply lm_sS); exact rfl; exact rfl)
    | ((with_reducible apply lm_sL); exact rfl)
    | ((with_reducible apply lm_sP); exact rfl; exact rfl)
    | ((with_reducible apply lm_sPL); exact rfl; exact rfl)
    | ((with_reducible apply lm_sAA); exact rfl; exact rfl)
    | ((with_reducible apply lm_sA); (first | exact rfl | assumption); omega)
    | ((with_reducible apply lm_sJ); (first | exact rfl | assumption); omega)
    | ((with_reducible apply lm_sB); (first | exact rfl | assumption); omega)
    | ((with_reducible apply lm_wA); (first | exact rfl | assumption); omega)
    | ((with_reducible apply lm_wJ); (first | exact rfl | assumption); omega)
    | ((with_reducible apply lm_wB); (first | exact rfl | assumption); omega)
    | ((with_reducible apply lm_sAl); (first | exact rfl | assumption); omega)
    | ((with_reducible apply lm_iW); decide))
    exact rfl
  · unfold lm_dgt
    rw [eS]
    by_cases c0 : j < 2 * N
    · rw [if_pos c0, lm_u_ne (by omega), lm_u_ne (by omega), lm_u_ne (by omega), i2 j c0]
    · rw [if_neg c0]
      by_cases c1 : j = 2 * N
      · rw [if_pos c1, c1, lm_u_ne (by omega), lm_u_ne (by omega), lm_u_eq]
      · rw [if_neg c1]
        by_cases c2 : j = 2 * N + 1
        · rw [if_pos c2, c2, lm_u_ne (by omega), lm_u_eq]
        · rw [if_neg c2, show j = 2 * N + 2 by omega, lm_u_eq]
/-! climbing -/
def lm_I188 (W : lm_WT) (ty u : Int32) (I : Nat) (A V : Nat → Int32) (m0 : lm_MI) (n0 : lm_ML) (j : Nat) (m : lm_MI) (n : lm_ML) : Prop := lm_RX W m n ∧ (∀ r, r ≠ 203 → r ≠ 227 → r ≠ 333 → r ≠ 354 → r ≠ 355 → m r = m0 r) ∧ lm_fG m0 n0 m n ∧ ∀ t, t < lm_sn W.2.1 → lm_b8 (m 354 t) = lm_hcl W ty u I A V j t
theorem lm_l188 (hs : W.2.1 ≤ 11) {m0 : lm_MI} {n0 : lm_ML} (hty : lm_s3 ty) (hn : lm_b8 ty ≠ Int32.ofInt 5 ∧ lm_b8 ty ≠ Int32.ofInt 6) (hI : I ≤ 2000000) (hlv : lv ≤ 14) (hp : lm_ar p = some (1, w)) (gp : p ≠ 203 ∧ p ≠ 227 ∧ p ≠ 333 ∧ p ≠ 354 ∧ p ≠ 355) (hbw : b + lv * lm_sn W.2.1 ≤ w) (hw : w ≤ 70000) (hA : ∀ t, t < lv * lm_sn W.2.1 → lm_b8 (m0 p (b + t)) = A t) : ∀ j, j < lv → ∀ m n, lm_I188 W ty u I A V m0 n0 j m n → ∃ m' n', lm_I188 W ty u I A V m0 n0 (j + 1) m' n' ∧ ∀ R, lm_rn sc (d + 6) lm_m188.2.2.2.2.1 (lm_reg lm_m188.2.2.2.2.2) (3, [(0, .ref 203), (1, .int ty), (2, .int u), (3, .int (Int32.ofNat I)), (4, .int (Int32.ofNat lv)), (5, .ref p), (6, .int (Int32.ofNat b)), (7, .int (Int32.ofNat (j + 1)))], []) (lm_w m' n' x) = some R → lm_rn sc (d + 6) lm_m188.2.2.2.2.1 (lm_reg lm_m188.2.2.2.2.2) (3, [(0, .ref 203), (1, .int ty), (2, .int u), (3, .int (Int32.ofNat I)), (4, .int (Int32.ofNat lv)), (5, .ref p), (6, .int (Int32.ofNat b)), (7, .int (Int32.ofNat j))], []) (lm_w m n x) = some R := by
  intro j hj m n ⟨i1, i2, i3, i4⟩
  have hpar := lm_spar _ hs
  have hl : j * lm_sn W.2.1 + lm_sn W.2.1 ≤ lv * lm_sn W.2.1 := by rw [← Nat.succ_mul]; exact Nat.mul_le_mul_right _ hj
  have h2 : I / 2 ^ j % 2 = 0 ∨ I / 2 ^ j % 2 = 1 := by omega
  generalize eo : I / 2 ^ j % 2 * lm_sn W.2.1 = o
  have ho : (I / 2 ^ j % 2 = 0 ∧ o = 0) ∨ (I / 2 ^ j % 2 = 1 ∧ o = lm_sn W.2.1) := by
    rcases h2 with e | e
    · exact Or.inl ⟨e, by rw [← eo, e, Nat.zero_mul]⟩
    · exact Or.inr ⟨e, by rw [← eo, e, Nat.one_mul]⟩
  have u1 := lm_u75 (sc := sc) (d := d + 5) (m := m) (n := n) (x := x) (q := 354) (p := 355) (v := 64) (w := 64) (a := 0) (b := o) (l := lm_sn W.2.1) rfl rfl (by decide) (by omega) (by omega) (by decide) (by decide)
  generalize eM1 : lm_fil m 355 o (o + lm_sn W.2.1) (fun i => lm_b8 (m 354 (0 + (i - o)))) = M1 at u1
  have r1 : ∀ r, r ≠ 355 → M1 r = m r := fun r hr => by rw [← eM1, lm_fl_row hr]
  have u2 := lm_u75 (sc := sc) (d := d + 5) (m := M1) (n := n) (x := x) (q := p) (p := 355) (v := w) (w := 64) (a := b + j * lm_sn W.2.1) (b := lm_sn W.2.1 - o) (l := lm_sn W.2.1) hp rfl gp.2.2.2.2 (by omega) (by omega) hw (by decide)
  generalize eM2 : lm_fil M1 355 (lm_sn W.2.1 - o) (lm_sn W.2.1 - o + lm_sn W.2.1) (fun i => lm_b8 (M1 p (b + j * lm_sn W.2.1 + (i - (lm_sn W.2.1 - o))))) = M2 at u2
  have r2 : ∀ r, r ≠ 355 → M2 r = m r := fun r hr => by rw [← eM2, lm_fl_row hr, r1 r hr]
  have S2 : lm_RX W M2 n := i1.keep (lm_fG.of (r2 203 (by decide))) (r2 221 (by decide)) (r2 358 (by decide)) (r2 359 (by decide)) (r2 333 (by decide))
  obtain ⟨m3, m4, n4, c3, c4, e3, f4, g4, S4, o4, v4⟩ := lm_rth (sc := sc) (d := d) (e := d + 5) (x := x) (q := 355) (v := 64) (a := 0) (l := 2 * lm_sn W.2.1) (X := if I / 2 ^ j % 2 = 0 then lm_cat (lm_sn W.2.1) (lm_hcl W ty u I A V j) (fun t => A (j * lm_sn W.2.1 + t)) else lm_cat (lm_sn W.2.1) (fun t => A (j * lm_sn W.2.1 + t)) (lm_hcl W ty u I A V j)) (p := 354) (w := 64) (b := 0) (ty := ty) (u := u) (y := Int32.ofNat (j + 1)) (z := Int32.ofNat (I / 2 ^ (j + 1))) hs S2 hty (fun _ => hn) rfl (by unfold lm_okq; decide) (by omega) (by decide) (fun t ht => by
    have hAt : ∀ t, t < lm_sn W.2.1 → lm_b8 (lm_b8 (M1 p (b + j * lm_sn W.2.1 + t))) = A (j * lm_sn W.2.1 + t) := fun t ht => by
      rw [lm_b8b8, r1 p gp.2.2.2.2, i2 p gp.1 gp.2.1 gp.2.2.1 gp.2.2.2.1 gp.2.2.2.2, Nat.add_assoc, hA _ (by omega)]
    rw [Nat.zero_add]
    rcases ho with ⟨e, e'⟩ | ⟨e, e'⟩
    · rw [if_pos e]
      unfold lm_cat
      subst e'
      by_cases c : t < lm_sn W.2.1
      · rw [if_pos c, ← eM2, lm_fl_out (by omega), ← eM1, lm_fl_in (by omega), lm_b8b8, Nat.sub_zero, Nat.zero_add]
        exact i4 t c
      · rw [if_neg c, ← eM2, lm_fl_in (by omega), Nat.sub_zero]
        exact hAt (t - lm_sn W.2.1) (by omega)
    · rw [if_neg (by omega)]
      unfold lm_cat
      subst e'
      by_cases c : t < lm_sn W.2.1
      · rw [if_pos c, ← eM2, lm_fl_in (by omega), Nat.sub_self, Nat.sub_zero]
        exact hAt t c
      · rw [if_neg c, ← eM2, lm_fl_out (by omega), ← eM1, lm_fl_in (by omega), lm_b8b8, Nat.zero_add]
        exact i4 _ (by omega)) rfl (by unfold lm_okp; decide) (by omega) (by decide)
  refine ⟨m4, n4, ⟨S4, fun r q1 q2 q3 q4 q5 => by rw [f4 r q1 q2 q3 q4, r2 r q5, i2 r q1 q2 q3 q4 q5], i3.tr (lm_fG.tr (lm_fG.of (r2 203 (by decide))) g4), fun t ht => by have g := v4 t ht; rw [Nat.zero_add] at g; exact g⟩, fun R KK => ?_⟩
  clear i4 v4 o4 hA
  have e67 : ∀ M' : lm_MI, M' 203 = m 203 → M' 203 67 = Int32.ofNat (lm_sn W.2.1) := fun M' e => by rw [e]; exact i1.2.1.1
  have e84 : lm_rn sc (d + 6) lm_m188.2.2.2.2.1 (lm_reg lm_m188.2.2.2.2.2) (84, [(0, .ref 203), (1, .int ty), (2, .int u), (3, .int (Int32.ofNat I)), (4, .int (Int32.ofNat lv)), (5, .ref p), (6, .int (Int32.ofNat b)), (7, .int (Int32.ofNat j))], [.int (Int32.ofNat (lm_sn W.2.1 - o)), .ref 355, .int (Int32.ofNat (b + j * lm_sn W.2.1)), .ref p]) (lm_w M1 n x) = some R := by
    refine lm_e188_84 ?_
    unfold lm_q188_84
    rw [lm_K0, lm_K1, lm_K2, lm_oo, lm_srN (a := I) (b := j + 1) (by omega) (by omega)]
    repeat (first
    | ((with_reducible apply lm_sI); exact rfl)
    | ((with_reducible apply lm_sR); exact rfl)
    | ((with_reducible apply lm_sS); exact rfl; exact rfl)
    | ((with_reducible apply lm_sL); exact rfl)
    | ((with_reducible apply lm_sP); exact rfl; exact rfl)
    | ((with_reducible apply lm_sPL); exact rfl; exact rfl)
    | ((with_reducible apply lm_sAA); exact rfl; exact rfl)
    | ((with_reducible apply lm_sA); (first | exact rfl | assumption); omega)
    | ((with_reducible apply lm_sJ); (first | exact rfl | assumption); omega)
    | ((with_reducible apply lm_sB); (first | exact rfl | assumption); omega)
    | ((with_reducible apply lm_wA); (first | exact rfl | assumption); omega)
    | ((with_reducible apply lm_wJ); (first | exact rfl | assumption); omega)
    | ((with_reducible apply lm_wB); (first | exact rfl | assumption); omega)
    | ((with_reducible apply lm_sAl); (first | exact rfl | assumption); omega)
    | ((with_reducible apply lm_iW); decide))
    simp only [Nat.reduceDiv, Nat.reduceMod]
    rw [e67 M1 (r1 203 (by decide))]
    refine lm_cV u2 ?_
    repeat (first
    | ((with_reducible apply lm_sI); exact rfl)
    | ((with_reducible apply lm_sR); exact rfl)
    | ((with_reducible apply lm_sS); exact rfl; exact rfl)
    | ((with_reducible apply lm_sL); exact rfl)
    | ((with_reducible apply lm_sP); exact rfl; exact rfl)
    | ((with_reducible apply lm_sPL); exact rfl; exact rfl)
    | ((with_reducible apply lm_sAA); exact rfl; exact rfl)
    | ((with_reducible apply lm_sA); (first | exact rfl | assumption); omega)
    | ((with_reducible apply lm_sJ); (first | exact rfl | assumption); omega)
    | ((with_reducible apply lm_sB); (first | exact rfl | assumption); omega)
    | ((with_reducible apply lm_wA); (first | exact rfl | assumption); omega)
    | ((with_reducible apply lm_wJ); (first | exact rfl | assumption); omega)
    | ((with_reducible apply lm_wB); (first | exact rfl | assumption); omega)
    | ((with_reducible apply lm_sAl); (first | exact rfl | assumption); omega)
    | ((with_reducible apply lm_iW); decide))
    refine lm_cV c3 ?_
    repeat (first
    | ((with_reducible apply lm_sI); exact rfl)
    | ((with_reducible apply lm_sR); exact rfl)
    | ((with_reducible apply lm_sS); exact rfl; exact rfl)
    | ((with_reducible apply lm_sL); exact rfl)
    | ((with_reducible apply lm_sP); exact rfl; exact rfl)
    | ((with_reducible apply lm_sPL); exact rfl; exact rfl)
    | ((with_reducible apply lm_sAA); exact rfl; exact rfl)
    | ((with_reducible apply lm_sA); (first | exact rfl | assumption); omega)
    | ((with_reducible apply lm_sJ); (first | exact rfl | assumption); omega)
    | ((with_reducible apply lm_sB); (first | exact rfl | assumption); omega)
    | ((with_reducible apply lm_wA); (first | exact rfl | assumption); omega)
    | ((with_reducible apply lm_wJ); (first | exact rfl | assumption); omega)
    | ((with_reducible apply lm_wB); (first | exact rfl | assumption); omega)
    | ((with_reducible apply lm_sAl); (first | exact rfl | assumption); omega)
    | ((with_reducible apply lm_iW); decide))
    simp only [Nat.reduceDiv, Nat.reduceMod]
    rw [e67 m3 (by rw [e3, r2 203 (by decide)]), lm_om]
    refine lm_cV c4 ?_
    exact KK
  have e48 : ∀ z8 : Int32, (z8 = 0 → o = lm_sn W.2.1) → (z8 ≠ 0 → o = 0) → lm_rn sc (d + 6) lm_m188.2.2.2.2.1 (lm_reg lm_m188.2.2.2.2.2) (48, [(0, .ref 203), (1, .int ty), (2, .int u), (3, .int (Int32.ofNat I)), (4, .int (Int32.ofNat lv)), (5, .ref p), (6, .int (Int32.ofNat b)), (7, .int (Int32.ofNat j)), (8, .int z8)], [.int (Int32.ofNat o), .ref 355, .int (Int32.ofNat 0), .ref 354]) (lm_w m n x) = some R := by
    intro z8 hz0 hz1
    refine lm_e188_48 ?_
    unfold lm_q188_48
    repeat (first
    | ((with_reducible apply lm_sI); exact rfl)
    | ((with_reducible apply lm_sR); exact rfl)
    | ((with_reducible apply lm_sS); exact rfl; exact rfl)
    | ((with_reducible apply lm_sL); exact rfl)
    | ((with_reducible apply lm_sP); exact rfl; exact rfl)
    | ((with_reducible apply lm_sPL); exact rfl; exact rfl)
    | ((with_reducible apply lm_sAA); exact rfl; exact rfl)
    | ((with_reducible apply lm_sA); (first | exact rfl | assumption); omega)
    | ((with_reducible apply lm_sJ); (first | exact rfl | assumption); omega)
    | ((with_reducible apply lm_sB); (first | exact rfl | assumption); omega)
    | ((with_reducible apply lm_wA); (first | exact rfl | assumption); omega)
    | ((with_reducible apply lm_wJ); (first | exact rfl | assumption); omega)
    | ((with_reducible apply lm_wB); (first | exact rfl | assumption); omega)
    | ((with_reducible apply lm_sAl); (first | exact rfl | assumption); omega)
    | ((with_reducible apply lm_iW); decide))
    simp only [Nat.reduceDiv, Nat.reduceMod]
    rw [e67 m rfl]
    refine lm_cV u1 ?_
    repeat (first
    | ((with_reducible apply lm_sI); exact rfl)
    | ((with_reducible apply lm_sR); exact rfl)
    | ((with_reducible apply lm_sS); exact rfl; exact rfl)
    | ((with_reducible apply lm_sL); exact rfl)
    | ((with_reducible apply lm_sP); exact rfl; exact rfl)
    | ((with_reducible apply lm_sPL); exact rfl; exact rfl)
    | ((with_reducible apply lm_sAA); exact rfl; exact rfl)
    | ((with_reducible apply lm_sA); (first | exact rfl | assumption); omega)
    | ((with_reducible apply lm_sJ); (first | exact rfl | assumption); omega)
    | ((with_reducible apply lm_sB); (first | exact rfl | assumption); omega)
    | ((with_reducible apply lm_wA); (first | exact rfl | assumption); omega)
    | ((with_reducible apply lm_wJ); (first | exact rfl | assumption); omega)
    | ((with_reducible apply lm_wB); (first | exact rfl | assumption); omega)
    | ((with_reducible apply lm_sAl); (first | exact rfl | assumption); omega)
    | ((with_reducible apply lm_iW); decide))
    simp only [Nat.reduceDiv, Nat.reduceMod]
    rw [e67 M1 (r1 203 (by decide)), lm_om, lm_oo]
    by_cases c : z8 = 0
    · refine lm_iT c ?_
      rw [hz0 c, Nat.sub_self] at e84
      rw [lm_K0]
      exact e84
    · refine lm_iF c ?_
      rw [hz1 c, Nat.sub_zero] at e84
      repeat (first
    | ((with_reducible apply lm_sI); exact rfl)
    | ((with_reducible apply lm_sR); exact rfl)
    | ((with_reducible apply lm_sS); exact rfl; exact rfl)
    | ((with_reducible apply lm_sL); exact rfl)
    | ((with_reducible apply lm_sP); exact rfl; exact rfl)
    | ((with_reducible apply lm_sPL); exact rfl; exact rfl)
    | ((with_reducible apply lm_sAA); exact rfl; exact rfl)
    | ((with_reducible apply lm_sA); (first | exact rfl | assumption); omega)
    | ((with_reducible apply lm_sJ); (first | exact rfl | assumption); omega)
    | ((with_reducible apply lm_sB); (first | exact rfl | assumption); omega)
    | ((with_reducible apply lm_wA); (first | exact rfl | assumption); omega)
    | ((with_reducible apply lm_wJ); (first | exact rfl | assumption); omega)
    | ((with_reducible apply lm_wB); (first | exact rfl | assumption); omega)
    | ((with_reducible apply lm_sAl); (first | exact rfl | assumption); omega)
    | ((with_reducible apply lm_iW); decide))
      simp only [Nat.reduceDiv, Nat.reduceMod]
      rw [e67 M1 (r1 203 (by decide))]
      exact e84
  refine lm_e188_3 ?_
  unfold lm_q188_3
  refine lm_geF (by omega) (by omega) (by omega) ?_
  refine lm_iW (by decide) ?_
  rw [lm_srN (a := I) (b := j) (by omega) (by omega), lm_K2, lm_orm (Nat.lt_of_le_of_lt (Nat.div_le_self _ _) (by omega)) (by decide)]
  rcases ho with ⟨e, e'⟩ | ⟨e, e'⟩
  · rw [e]
    refine lm_iF (show ¬ ¬ Int32.ofNat 0 = 0 by decide) ?_
    refine lm_e188_24 ?_
    unfold lm_q188_24
    repeat (first
    | ((with_reducible apply lm_sI); exact rfl)
    | ((with_reducible apply lm_sR); exact rfl)
    | ((with_reducible apply lm_sS); exact rfl; exact rfl)
    | ((with_reducible apply lm_sL); exact rfl)
    | ((with_reducible apply lm_sP); exact rfl; exact rfl)
    | ((with_reducible apply lm_sPL); exact rfl; exact rfl)
    | ((with_reducible apply lm_sAA); exact rfl; exact rfl)
    | ((with_reducible apply lm_sA); (first | exact rfl | assumption); omega)
    | ((with_reducible apply lm_sJ); (first | exact rfl | assumption); omega)
    | ((with_reducible apply lm_sB); (first | exact rfl | assumption); omega)
    | ((with_reducible apply lm_wA); (first | exact rfl | assumption); omega)
    | ((with_reducible apply lm_wJ); (first | exact rfl | assumption); omega)
    | ((with_reducible apply lm_wB); (first | exact rfl | assumption); omega)
    | ((with_reducible apply lm_sAl); (first | exact rfl | assumption); omega)
    | ((with_reducible apply lm_iW); decide))
    refine lm_iF (show ¬ Int32.ofInt 1 = 0 by decide) ?_
    have g := e48 (Int32.ofInt 1) (fun g => absurd g (by decide)) (fun _ => e')
    rw [e'] at g
    rw [lm_K0]
    exact g
  · rw [e]
    refine lm_iT (show ¬ Int32.ofNat 1 = 0 by decide) ?_
    refine lm_e188_24 ?_
    unfold lm_q188_24
    repeat (first
    | ((with_reducible apply lm_sI); exact rfl)
    | ((with_reducible apply lm_sR); exact rfl)
    | ((with_reducible apply lm_sS); exact rfl; exact rfl)
    | ((with_reducible apply lm_sL); exact rfl)
    | ((with_reducible apply lm_sP); exact rfl; exact rfl)
    | ((with_reducible apply lm_sPL); exact rfl; exact rfl)
    | ((with_reducible apply lm_sAA); exact rfl; exact rfl)
    | ((with_reducible apply lm_sA); (first | exact rfl | assumption); omega)
    | ((with_reducible apply lm_sJ); (first | exact rfl | assumption); omega)
    | ((with_reducible apply lm_sB); (first | exact rfl | assumption); omega)
    | ((with_reducible apply lm_wA); (first | exact rfl | assumption); omega)
    | ((with_reducible apply lm_wJ); (first | exact rfl | assumption); omega)
    | ((with_reducible apply lm_wB); (first | exact rfl | assumption); omega)
    | ((with_reducible apply lm_sAl); (first | exact rfl | assumption); omega)
    | ((with_reducible apply lm_iW); decide))
    refine lm_iT (show Int32.ofInt 0 = 0 by decide) ?_
    repeat (first
    | ((with_reducible apply lm_sI); exact rfl)
    | ((with_reducible apply lm_sR); exact rfl)
    | ((with_reducible apply lm_sS); exact rfl; exact rfl)
    | ((with_reducible apply lm_sL); exact rfl)
    | ((with_reducible apply lm_sP); exact rfl; exact rfl)
    | ((with_reducible apply lm_sPL); exact rfl; exact rfl)
    | ((with_reducible apply lm_sAA); exact rfl; exact rfl)
    | ((with_reducible apply lm_sA); (first | exact rfl | assumption); omega)
    | ((with_reducible apply lm_sJ); (first | exact rfl | assumption); omega)
    | ((with_reducible apply lm_sB); (first | exact rfl | assumption); omega)
    | ((with_reducible apply lm_wA); (first | exact rfl | assumption); omega)
    | ((with_reducible apply lm_wJ); (first | exact rfl | assumption); omega)
    | ((with_reducible apply lm_wB); (first | exact rfl | assumption); omega)
    | ((with_reducible apply lm_sAl); (first | exact rfl | assumption); omega)
    | ((with_reducible apply lm_iW); decide))
    simp only [Nat.reduceDiv, Nat.reduceMod]
    rw [e67 m rfl]
    have g := e48 (Int32.ofInt 0) (fun _ => e') (fun g => absurd (show Int32.ofInt 0 = 0 by decide) g)
    rw [e'] at g
    rw [lm_K0] at g ⊢
    exact g
theorem lm_u188 (hs : W.2.1 ≤ 11) (h : lm_RX W m n) (hV : ∀ t, t < lm_sn W.2.1 → lm_b8 (m 354 t) = V t) (hty : lm_s3 ty) (hn : lm_b8 ty ≠ Int32.ofInt 5 ∧ lm_b8 ty ≠ Int32.ofInt 6) (hI : I ≤ 2000000) (hlv : lv ≤ 14) (hp : lm_ar p = some (1, w)) (gp : p ≠ 203 ∧ p ≠ 227 ∧ p ≠ 333 ∧ p ≠ 354 ∧ p ≠ 355) (hbw : b + lv * lm_sn W.2.1 ≤ w) (hw : w ≤ 70000) (hA : ∀ t, t < lv * lm_sn W.2.1 → lm_b8 (m p (b + t)) = A t) : ∃ m' n', lm_cal sc (d + 7) 188 [.ref 203, .int ty, .int u, .int (Int32.ofNat I), .int (Int32.ofNat lv), .ref p, .int (Int32.ofNat b)] (lm_w m n x) = some (.ok none, lm_w m' n' x) ∧ lm_RX W m' n' ∧ (∀ r, r ≠ 203 → r ≠ 227 → r ≠ 333 → r ≠ 354 → r ≠ 355 → m' r = m r) ∧ lm_fG m n m' n' ∧ ∀ t, t < lm_sn W.2.1 → lm_b8 (m' 354 t) = lm_hcl W ty u I A V lv t := by
  obtain ⟨m1, n1, ⟨i1, i2, i3, i4⟩, k1⟩ := lm_lp (fr := fun j => (3, [(0, .ref 203), (1, .int ty), (2, .int u), (3, .int (Int32.ofNat I)), (4, .int (Int32.ofNat lv)), (5, .ref p), (6, .int (Int32.ofNat b)), (7, .int (Int32.ofNat j))], [])) (lm_l188 (sc := sc) (ty := ty) (u := u) (V := V) (d := d) (x := x) (p := p) (b := b) (m0 := m) (n0 := n) hs hty hn hI hlv hp gp hbw hw hA) lv 0 (Nat.zero_add _) m n ⟨h, fun _ _ _ _ _ _ => rfl, lm_fG.rf, hV⟩
  refine ⟨m1, n1, ?_, i1, i2, i3, i4⟩
  clear i4 hA hV
  refine lm_cal_of (Y := lm_m188) rfl rfl (lm_e188_0 ?_)
  unfold lm_q188_0
  rw [lm_K0]
  refine k1 _ ?_
  refine lm_e188_3 ?_
  unfold lm_q188_3
  exact lm_geT (by omega) (by omega) (Nat.le_refl _) rfl
end LMUA
