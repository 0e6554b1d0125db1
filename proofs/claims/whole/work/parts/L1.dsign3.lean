/-! ===== dsaSign of the class: the call ===== -/
theorem ln_kd_r {kk : Nat} (h : kk ≤ 13) : Int32.ofInt (-1) ≤ ln_kd kk ∧ ln_kd kk ≤ Int32.ofInt 12 := by
  unfold ln_kd
  exact ⟨(lm_zle (by omega) (by omega)).mpr (by omega), (lm_zle (by omega) (by omega)).mpr (by omega)⟩
section LMED
variable {xs : List Int32} {C : lm_CX} {d s kk xl ml rl sl : Nat} {m : lm_MI} {n : lm_ML} {x : lm_H × Nat × Nat}
theorem lm_u95e (hx : lm_rom x) (hs : s ≤ 2) (hk : kk ≤ 13) (hxl : m 34 1 = Int32.ofNat xl) (hx6 : xl ≤ 65536) (h : ¬ (kk = 0 ∨ xl ≤ 255)) : lm_cal (lm_sc xs) (d + 8) 95 [.ref 0, .int (Int32.ofNat s), .int (ln_kd kk)] (lm_w m n x) = some (.error (lm_xp x), lm_w m n (lm_xx 14 x)) := by
  have u := ln_u168 (sc := lm_sc xs) (d := d + 6) (m := m) (n := n) (x := x) hk hxl hx6
  rw [decide_eq_false h] at u
  refine lm_cal_of (Y := lm_m95) rfl rfl (lm_e95_0 ?_)
  unfold lm_q95_0
  refine lm_cV (lm_t132n (i := s) (d := d + 6) (n := 2) hs (by omega)) ?_
  refine lm_cV (lm_t132 (d := d + 6) (ln_kd_r hk).1 (ln_kd_r hk).2) ?_
  repeat (first
    | ((with_reducible apply lm_sI); exact rfl)
    | ((with_reducible apply lm_sR); exact rfl)
    | ((with_reducible apply lm_sS); exact rfl; exact rfl)
    | ((with_reducible apply lm_sL); exact rfl)
    | ((with_reducible apply lm_sP); exact rfl; exact rfl)
    | ((with_reducible apply lm_sPL); exact rfl; exact rfl)
    | ((with_reducible apply lm_sAA); exact rfl; exact rfl)
    | ((with_reducible apply lm_sA); (first | exact rfl | assumption); omega)
    | ((with_reducible apply lm_sJ); (first | exact rfl | assumption); omega)
    | ((with_reducible apply lm_sB); (first | exact rfl | assumption); omega)
    | ((with_reducible apply lm_wA); (first | exact rfl | assumption); omega)
    | ((with_reducible apply lm_wJ); (first | exact rfl | assumption); omega)
    | ((with_reducible apply lm_wB); (first | exact rfl | assumption); omega)
    | ((with_reducible apply lm_sAl); (first | exact rfl | assumption); omega)
    | ((with_reducible apply lm_iW); decide))
  refine lm_cI u ?_
  rw [show lm_z false = Int32.ofInt 0 from rfl]
  exact lm_cVe (lm_u150e (d := d + 6) hx)
/-- up to the choice of the set -/
theorem lm_l95 (hs : s ≤ 2) (hk : kk ≤ 13) (hxl : m 34 1 = Int32.ofNat xl) (hx6 : xl ≤ 65536) (h : kk = 0 ∨ xl ≤ 255) (h1 : m 26 1 = Int32.ofNat rl) (hrl : rl ≤ 65536) {b : Int32} (hb : b = if rl = 0 ∨ rl = 32 then Int32.ofInt 1 else Int32.ofInt 0) : ∀ R, lm_rn (lm_sc xs) (d + 7) lm_m95.2.2.2.2.1 (lm_reg lm_m95.2.2.2.2.2) (55, [(0, .ref 0), (1, .int (Int32.ofNat s)), (2, .int (ln_kd kk))], [.int b]) (lm_w m n x) = some R → lm_cal (lm_sc xs) (d + 8) 95 [.ref 0, .int (Int32.ofNat s), .int (ln_kd kk)] (lm_w m n x) = some R := by
  intro R K
  have u := ln_u168 (sc := lm_sc xs) (d := d + 6) (m := m) (n := n) (x := x) hk hxl hx6
  rw [decide_eq_true h] at u
  refine lm_cal_of (Y := lm_m95) rfl rfl (lm_e95_0 ?_)
  unfold lm_q95_0
  refine lm_cV (lm_t132n (i := s) (d := d + 6) (n := 2) hs (by omega)) ?_
  refine lm_cV (lm_t132 (d := d + 6) (ln_kd_r hk).1 (ln_kd_r hk).2) ?_
  repeat (first
    | ((with_reducible apply lm_sI); exact rfl)
    | ((with_reducible apply lm_sR); exact rfl)
    | ((with_reducible apply lm_sS); exact rfl; exact rfl)
    | ((with_reducible apply lm_sL); exact rfl)
    | ((with_reducible apply lm_sP); exact rfl; exact rfl)
    | ((with_reducible apply lm_sPL); exact rfl; exact rfl)
    | ((with_reducible apply lm_sAA); exact rfl; exact rfl)
    | ((with_reducible apply lm_sA); (first | exact rfl | assumption); omega)
    | ((with_reducible apply lm_sJ); (first | exact rfl | assumption); omega)
    | ((with_reducible apply lm_sB); (first | exact rfl | assumption); omega)
    | ((with_reducible apply lm_wA); (first | exact rfl | assumption); omega)
    | ((with_reducible apply lm_wJ); (first | exact rfl | assumption); omega)
    | ((with_reducible apply lm_wB); (first | exact rfl | assumption); omega)
    | ((with_reducible apply lm_sAl); (first | exact rfl | assumption); omega)
    | ((with_reducible apply lm_iW); decide))
  refine lm_cI u ?_
  rw [show lm_z true = Int32.ofInt 1 from rfl]
  refine lm_cV (lm_u150 (d := d + 6)) ?_
  rw [lm_K0, lm_K32]
  repeat (first
    | ((with_reducible apply lm_sI); exact rfl)
    | ((with_reducible apply lm_sR); exact rfl)
    | ((with_reducible apply lm_sS); exact rfl; exact rfl)
    | ((with_reducible apply lm_sL); exact rfl)
    | ((with_reducible apply lm_sP); exact rfl; exact rfl)
    | ((with_reducible apply lm_sPL); exact rfl; exact rfl)
    | ((with_reducible apply lm_sAA); exact rfl; exact rfl)
    | ((with_reducible apply lm_sA); (first | exact rfl | assumption); omega)
    | ((with_reducible apply lm_sJ); (first | exact rfl | assumption); omega)
    | ((with_reducible apply lm_sB); (first | exact rfl | assumption); omega)
    | ((with_reducible apply lm_wA); (first | exact rfl | assumption); omega)
    | ((with_reducible apply lm_wJ); (first | exact rfl | assumption); omega)
    | ((with_reducible apply lm_wB); (first | exact rfl | assumption); omega)
    | ((with_reducible apply lm_sAl); (first | exact rfl | assumption); omega)
    | ((with_reducible apply lm_iW); decide))
  simp only [Nat.reduceDiv, Nat.reduceMod]
  rw [h1]
  have e50 : b = Int32.ofInt 1 → lm_rn (lm_sc xs) (d + 7) lm_m95.2.2.2.2.1 (lm_reg lm_m95.2.2.2.2.2) (50, [(0, .ref 0), (1, .int (Int32.ofNat s)), (2, .int (ln_kd kk))], []) (lm_w m n x) = some R := by
    intro e
    rw [e] at K
    refine lm_e95_50 ?_
    unfold lm_q95_50
    exact K
  by_cases c32 : rl = 32
  · refine lm_eqT (by omega) (by omega) c32 ?_
    exact e50 (by rw [hb, if_pos (Or.inr c32)])
  · refine lm_eqF (by omega) (by omega) c32 ?_
    repeat (first
    | ((with_reducible apply lm_sI); exact rfl)
    | ((with_reducible apply lm_sR); exact rfl)
    | ((with_reducible apply lm_sS); exact rfl; exact rfl)
    | ((with_reducible apply lm_sL); exact rfl)
    | ((with_reducible apply lm_sP); exact rfl; exact rfl)
    | ((with_reducible apply lm_sPL); exact rfl; exact rfl)
    | ((with_reducible apply lm_sAA); exact rfl; exact rfl)
    | ((with_reducible apply lm_sA); (first | exact rfl | assumption); omega)
    | ((with_reducible apply lm_sJ); (first | exact rfl | assumption); omega)
    | ((with_reducible apply lm_sB); (first | exact rfl | assumption); omega)
    | ((with_reducible apply lm_wA); (first | exact rfl | assumption); omega)
    | ((with_reducible apply lm_wJ); (first | exact rfl | assumption); omega)
    | ((with_reducible apply lm_wB); (first | exact rfl | assumption); omega)
    | ((with_reducible apply lm_sAl); (first | exact rfl | assumption); omega)
    | ((with_reducible apply lm_iW); decide))
    simp only [Nat.reduceDiv, Nat.reduceMod]
    rw [h1]
    by_cases c0 : rl = 0
    · rw [c0]
      refine lm_iF (show ¬ ¬ Int32.ofNat 0 = 0 by decide) ?_
      exact e50 (by rw [hb, if_pos (Or.inl c0)])
    · refine lm_neT (b := 0) (by omega) (by omega) c0 ?_
      rw [hb, if_neg (by omega)] at K
      exact K
theorem lm_u95f (hx : lm_rom x) (hs : s ≤ 2) (hk : kk ≤ 13) (hxl : m 34 1 = Int32.ofNat xl) (hx6 : xl ≤ 65536) (h : kk = 0 ∨ xl ≤ 255) (h1 : m 26 1 = Int32.ofNat rl) (hrl : rl ≤ 65536) (hn : ¬ (rl = 0 ∨ rl = 32)) : lm_cal (lm_sc xs) (d + 8) 95 [.ref 0, .int (Int32.ofNat s), .int (ln_kd kk)] (lm_w m n x) = some (.error (lm_xp x), lm_w m n (lm_xx 14 x)) := by
  refine lm_l95 hs hk hxl hx6 h h1 hrl (b := Int32.ofInt 0) (by rw [if_neg hn]) _ (lm_e95_55 ?_)
  unfold lm_q95_55
  exact lm_cVe (lm_u150e (d := d + 6) hx)
/-- up to the secret's size -/
theorem lm_l95b (hs : s ≤ 2) (hk : kk ≤ 13) (hxl : m 34 1 = Int32.ofNat xl) (hx6 : xl ≤ 65536) (h : kk = 0 ∨ xl ≤ 255) (h1 : m 26 1 = Int32.ofNat rl) (hrl : rl = 0 ∨ rl = 32) (h2 : m 30 1 = Int32.ofNat sl) (hsl : sl ≤ 65536) {b : Int32} (hb : b = if sl = lm_dss s then Int32.ofInt 1 else Int32.ofInt 0) : ∀ R, lm_rn (lm_sc xs) (d + 7) lm_m95.2.2.2.2.1 (lm_reg lm_m95.2.2.2.2.2) (90, [(0, .ref 0), (2, .int (ln_kd kk))], [.int b]) (lm_w (lm_cdm m s) n x) = some R → lm_cal (lm_sc xs) (d + 8) 95 [.ref 0, .int (Int32.ofNat s), .int (ln_kd kk)] (lm_w m n x) = some R := by
  intro R K
  have hsz := lm_xsz s hs
  have hkl := lm_dkl hs
  refine lm_l95 hs hk hxl hx6 h h1 (by omega) (b := Int32.ofInt 1) (by rw [if_pos hrl]) _ (lm_e95_55 ?_)
  unfold lm_q95_55
  refine lm_cV (lm_u150 (d := d + 6)) ?_
  repeat (first
    | ((with_reducible apply lm_sI); exact rfl)
    | ((with_reducible apply lm_sR); exact rfl)
    | ((with_reducible apply lm_sS); exact rfl; exact rfl)
    | ((with_reducible apply lm_sL); exact rfl)
    | ((with_reducible apply lm_sP); exact rfl; exact rfl)
    | ((with_reducible apply lm_sPL); exact rfl; exact rfl)
    | ((with_reducible apply lm_sAA); exact rfl; exact rfl)
    | ((with_reducible apply lm_sA); (first | exact rfl | assumption); omega)
    | ((with_reducible apply lm_sJ); (first | exact rfl | assumption); omega)
    | ((with_reducible apply lm_sB); (first | exact rfl | assumption); omega)
    | ((with_reducible apply lm_wA); (first | exact rfl | assumption); omega)
    | ((with_reducible apply lm_wJ); (first | exact rfl | assumption); omega)
    | ((with_reducible apply lm_wB); (first | exact rfl | assumption); omega)
    | ((with_reducible apply lm_sAl); (first | exact rfl | assumption); omega)
    | ((with_reducible apply lm_iW); decide))
  refine lm_cV (lm_u165 (d := d + 6) hs) ?_
  rw [lm_K2]
  repeat (first
    | ((with_reducible apply lm_sI); exact rfl)
    | ((with_reducible apply lm_sR); exact rfl)
    | ((with_reducible apply lm_sS); exact rfl; exact rfl)
    | ((with_reducible apply lm_sL); exact rfl)
    | ((with_reducible apply lm_sP); exact rfl; exact rfl)
    | ((with_reducible apply lm_sPL); exact rfl; exact rfl)
    | ((with_reducible apply lm_sAA); exact rfl; exact rfl)
    | ((with_reducible apply lm_sA); (first | exact rfl | assumption); omega)
    | ((with_reducible apply lm_sJ); (first | exact rfl | assumption); omega)
    | ((with_reducible apply lm_sB); (first | exact rfl | assumption); omega)
    | ((with_reducible apply lm_wA); (first | exact rfl | assumption); omega)
    | ((with_reducible apply lm_wJ); (first | exact rfl | assumption); omega)
    | ((with_reducible apply lm_wB); (first | exact rfl | assumption); omega)
    | ((with_reducible apply lm_sAl); (first | exact rfl | assumption); omega)
    | ((with_reducible apply lm_iW); decide))
  refine lm_cI (lm_u169' (d := d + 5) hs lm_cdm_DC) ?_
  simp only [Nat.reduceDiv, Nat.reduceMod]
  rw [lm_cd_row (by decide), h2]
  by_cases c : sl = lm_dss s
  · refine lm_neF (by omega) (by omega) (fun g => g c) ?_
    rw [hb, if_pos c] at K
    exact K
  · refine lm_neT (by omega) (by omega) c ?_
    rw [hb, if_neg c] at K
    exact K
theorem lm_u95g (hx : lm_rom x) (hs : s ≤ 2) (hk : kk ≤ 13) (hxl : m 34 1 = Int32.ofNat xl) (hx6 : xl ≤ 65536) (h : kk = 0 ∨ xl ≤ 255) (h1 : m 26 1 = Int32.ofNat rl) (hrl : rl = 0 ∨ rl = 32) (h2 : m 30 1 = Int32.ofNat sl) (hsl : sl ≤ 65536) (hn : sl ≠ lm_dss s) : lm_cal (lm_sc xs) (d + 8) 95 [.ref 0, .int (Int32.ofNat s), .int (ln_kd kk)] (lm_w m n x) = some (.error (lm_xp x), lm_w (lm_cdm m s) n (lm_xx 16 x)) := by
  refine lm_l95b hs hk hxl hx6 h h1 hrl h2 hsl (b := Int32.ofInt 0) (by rw [if_neg hn]) _ (lm_e95_90 ?_)
  unfold lm_q95_90
  exact lm_cVe (lm_u160e (d := d + 6) hx)
theorem lm_u95h (hC : lm_Cok xs C) (hr : ln_rt m) (hz : ∀ k, k < 256 → m 77 k = Int32.ofInt (lm_zd k)) (hx : lm_rom x) (hs : s ≤ 2) (hk : kk ≤ 13) (hxl : m 34 1 = Int32.ofNat xl) (hx6 : xl ≤ 65536) (h : kk = 0 ∨ xl ≤ 255) (h1 : m 26 1 = Int32.ofNat rl) (hrl : rl = 0 ∨ rl = 32) (h2 : m 30 1 = Int32.ofNat (lm_dss s)) (hm : m 32 1 = Int32.ofNat ml) (hml : ml ≤ 65536) : (∃ a, lm_sY C (m 31) (lm_sU C (m 31) (m 27) rl (lm_sV C (m 31) kk (m 35) xl (m 33) ml)) (lm_sV C (m 31) kk (m 35) xl (m 33) ml) s a ∧ ∃ m' n', lm_cal (lm_sc xs) (d + 8) 95 [.ref 0, .int (Int32.ofNat s), .int (ln_kd kk)] (lm_w m n x) = some (.ok (some (.int (Int32.ofNat (a + 1)))), lm_w m' n' x) ∧ (∀ r, (r < 5 ∨ 22 < r) → r ≠ 36 → r ≠ 37 → r ≠ 42 → r ≠ 43 → r ≠ 76 → (r < 79 ∨ 193 < r) → m' r = m r) ∧ lm_fN m n m' n' ∧ m' 36 1 = Int32.ofNat (lm_dps s) ∧ ∀ t, t < lm_dps s → lm_yb (m' 37 t) = lm_sig C (m 31) (lm_sU C (m 31) (m 27) rl (lm_sV C (m 31) kk (m 35) xl (m 33) ml)) (lm_sV C (m 31) kk (m 35) xl (m 33) ml) s (a * lm_dl s) t) ∨ (ln_sN C (m 31) (lm_sU C (m 31) (m 27) rl (lm_sV C (m 31) kk (m 35) xl (m 33) ml)) (lm_sV C (m 31) kk (m 35) xl (m 33) ml) s ∧ ∃ m' n', lm_cal (lm_sc xs) (d + 8) 95 [.ref 0, .int (Int32.ofNat s), .int (ln_kd kk)] (lm_w m n x) = some (.error (lm_xp x), lm_w m' n' (lm_xx 15 x)) ∧ (∀ r, (r < 5 ∨ 22 < r) → r ≠ 42 → r ≠ 43 → r ≠ 76 → (r < 79 ∨ 193 < r) → m' r = m r) ∧ lm_fN m n m' n') := by
  have hsz := lm_xsz s hs
  have hkl := lm_dkl hs
  have e0 : ∀ r, r ≠ 76 → lm_cdm m s r = m r := fun r hr => lm_cd_row hr
  have D0 : lm_DC (lm_cdm m s) s := lm_cdm_DC
  generalize eM : lm_cdm m s = M at e0 D0
  have hrM : ln_rt M := ⟨by rw [e0 11 (by decide)]; exact hr.1, by rw [e0 17 (by decide)]; exact hr.2⟩
  obtain ⟨m1, n1, c1, f1, g1, p4, p5, pP⟩ := lm_u170 (xs := xs) (C := C) (d := d + 1) (m := M) (n := n) (x := x) (kk := kk) (xl := xl) (ml := ml) hC hrM hk h (by rw [e0 34 (by decide)]; exact hxl) hx6 (by rw [e0 32 (by decide)]; exact hm) hml
  rw [e0 35 (by decide), e0 33 (by decide)] at pP
  have e1 : ∀ r, 22 < r → r ≠ 42 → r ≠ 43 → r ≠ 76 → m1 r = m r := fun r q1 q2 q3 q4 => by rw [f1 r (by omega) q2 q3, e0 r q4]
  have D1 : lm_DC m1 s := by unfold lm_DC; rw [f1 76 (by decide) (by decide) (by decide)]; exact D0
  have N1 : lm_fN m n m1 n1 := (lm_fN.of (e0 11 (by decide)) (e0 17 (by decide))).tr g1
  have m133 : m1 33 = m 33 := e1 33 (by decide) (by decide) (by decide) (by decide)
  have m131 : m1 31 = m 31 := e1 31 (by decide) (by decide) (by decide) (by decide)
  have m127 : m1 27 = m 27 := e1 27 (by decide) (by decide) (by decide) (by decide)
  have run : ∀ R, lm_bind (lm_asI (lm_cal (lm_sc xs) (d + 7) 171 [.ref 76, .ref 31, .ref 26, .ref 42, .ref 36])) (fun v13 => lm_ret (some (.int v13))) (lm_w m1 n1 x) = some R → lm_cal (lm_sc xs) (d + 8) 95 [.ref 0, .int (Int32.ofNat s), .int (ln_kd kk)] (lm_w m n x) = some R := by
    intro R K
    refine lm_l95b hs hk hxl hx6 h h1 hrl h2 (by omega) (b := Int32.ofInt 1) (by rw [if_pos rfl]) _ (lm_e95_90 ?_)
    unfold lm_q95_90
    refine lm_cV (lm_u160 (d := d + 6)) ?_
    rw [eM, lm_K2, lm_K0, lm_K5]
    repeat (first
    | ((with_reducible apply lm_sI); exact rfl)
    | ((with_reducible apply lm_sR); exact rfl)
    | ((with_reducible apply lm_sS); exact rfl; exact rfl)
    | ((with_reducible apply lm_sL); exact rfl)
    | ((with_reducible apply lm_sP); exact rfl; exact rfl)
    | ((with_reducible apply lm_sPL); exact rfl; exact rfl)
    | ((with_reducible apply lm_sAA); exact rfl; exact rfl)
    | ((with_reducible apply lm_sA); (first | exact rfl | assumption); omega)
    | ((with_reducible apply lm_sJ); (first | exact rfl | assumption); omega)
    | ((with_reducible apply lm_sB); (first | exact rfl | assumption); omega)
    | ((with_reducible apply lm_wA); (first | exact rfl | assumption); omega)
    | ((with_reducible apply lm_wJ); (first | exact rfl | assumption); omega)
    | ((with_reducible apply lm_wB); (first | exact rfl | assumption); omega)
    | ((with_reducible apply lm_sAl); (first | exact rfl | assumption); omega)
    | ((with_reducible apply lm_iW); decide))
    refine lm_cV c1 ?_
    repeat (first
    | ((with_reducible apply lm_sI); exact rfl)
    | ((with_reducible apply lm_sR); exact rfl)
    | ((with_reducible apply lm_sS); exact rfl; exact rfl)
    | ((with_reducible apply lm_sL); exact rfl)
    | ((with_reducible apply lm_sP); exact rfl; exact rfl)
    | ((with_reducible apply lm_sPL); exact rfl; exact rfl)
    | ((with_reducible apply lm_sAA); exact rfl; exact rfl)
    | ((with_reducible apply lm_sA); (first | exact rfl | assumption); omega)
    | ((with_reducible apply lm_sJ); (first | exact rfl | assumption); omega)
    | ((with_reducible apply lm_sB); (first | exact rfl | assumption); omega)
    | ((with_reducible apply lm_wA); (first | exact rfl | assumption); omega)
    | ((with_reducible apply lm_wJ); (first | exact rfl | assumption); omega)
    | ((with_reducible apply lm_wB); (first | exact rfl | assumption); omega)
    | ((with_reducible apply lm_sAl); (first | exact rfl | assumption); omega)
    | ((with_reducible apply lm_iW); decide))
    exact K
  have u := lm_u171 (xs := xs) (C := C) (d := d) (m := m1) (n := n1) (x := x) (s := s) (kk := kk) (xl := xl) (ml := ml) (rl := rl) (X := m 35) hC (N1.rt hr) hx hs D1 (fun k hk => by rw [e1 77 (by decide) (by decide) (by decide) (by decide)]; exact hz k hk) (lm_spl_le h) p4 p5 (by rw [e1 32 (by decide) (by decide) (by decide) (by decide)]; exact hm) hml (by rw [m133]; exact pP) (by rw [e1 26 (by decide) (by decide) (by decide) (by decide)]; exact h1) (by omega)
  rw [m133, m131, m127] at u
  rcases u with ⟨a, y, m2, n2, c2, f2, g2, z2, w2⟩ | ⟨y, m2, n2, c2, f2, g2⟩
  · exact Or.inl ⟨a, y, m2, n2, run _ (lm_cI c2 rfl), fun r q1 q2 q3 q4 q5 q6 q7 => by rw [f2 r q1 q2 q3 q7, f1 r q1 q4 q5, e0 r q6], N1.tr g2, z2, w2⟩
  · exact Or.inr ⟨y, m2, n2, run _ (lm_cIe c2), fun r q1 q4 q5 q6 q7 => by rw [f2 r q1 q7, f1 r q1 q4 q5, e0 r q6], N1.tr g2⟩
end LMED
