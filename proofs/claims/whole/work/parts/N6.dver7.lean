/-! ===== dsaVerify of the class: the call ===== -/
section LMVG
variable {xs : List Int32} {C : lm_CX} {d s kk xl ml pl sl : Nat} {m : lm_MI} {n : lm_ML} {x : lm_H × Nat × Nat}
theorem lm_u100e (hx : lm_rom x) (hs : s ≤ 2) (hk : kk ≤ 13) (hxl : m 34 1 = Int32.ofNat xl) (hx6 : xl ≤ 65536) (h : ¬ (kk = 0 ∨ xl ≤ 255)) : lm_cal (lm_sc xs) (d + 8) 100 [.ref 0, .int (Int32.ofNat s), .int (ln_kd kk)] (lm_w m n x) = some (.error (lm_xp x), lm_w m n (lm_xx 14 x)) := by
  have u := ln_u168 (sc := lm_sc xs) (d := d + 6) (m := m) (n := n) (x := x) hk hxl hx6
  rw [decide_eq_false h] at u
  refine lm_cal_of (Y := lm_m100) rfl rfl (lm_e100_0 ?_)
  unfold lm_q100_0
  refine lm_cV (lm_t132n (i := s) (d := d + 6) (n := 2) hs (by omega)) ?_
  refine lm_cV (lm_t132 (d := d + 6) (ln_kd_r hk).1 (ln_kd_r hk).2) ?_
  repeat (first
    | ((with_reducible apply lm_sI); exact rfl)
    | ((with_reducible apply lm_sR); exact rfl)
    | ((with_reducible apply lm_sS); exact rfl; exact rfl)
    | ((with_reducible apply lm_sL); exact rfl)
    | ((with_reducible apply lm_sP); exact rfl; exact rfl)
    | ((with_reducible apply lm_sPL); exact rfl; exact rfl)
    | ((with_reducible apply lm_sAA); exact rfl; exact rfl)
    | ((with_reducible apply lm_sA); (first | exact rfl | assumption); omega)
    | ((with_reducible apply lm_sJ); (first | exact rfl | assumption); omega)
    | ((with_reducible apply lm_sB); (first | exact rfl | assumption); omega)
    | ((with_reducible apply lm_wA); (first | exact rfl | assumption); omega)
    | ((with_reducible apply lm_wJ); (first | exact rfl | assumption); omega)
    | ((with_reducible apply lm_wB); (first | exact rfl | assumption); omega)
    | ((with_reducible apply lm_sAl); (first | exact rfl | assumption); omega)
    | ((with_reducible apply lm_iW); decide))
  refine lm_cI u ?_
  rw [show lm_z false = Int32.ofInt 0 from rfl]
  exact lm_cVe (lm_u150e (d := d + 6) hx)
/-- up to the public's size -/
theorem lm_l100 (hs : s ≤ 2) (hk : kk ≤ 13) (hxl : m 34 1 = Int32.ofNat xl) (hx6 : xl ≤ 65536) (h : kk = 0 ∨ xl ≤ 255) (h2 : m 28 1 = Int32.ofNat sl) (hsl : sl ≤ 65536) {b : Int32} (hb : b = if sl = 32 + 320 * lm_dk s then Int32.ofInt 1 else Int32.ofInt 0) : ∀ R, lm_rn (lm_sc xs) (d + 7) lm_m100.2.2.2.2.1 (lm_reg lm_m100.2.2.2.2.2) (56, [(0, .ref 0), (2, .int (ln_kd kk))], [.int b]) (lm_w (lm_cdm m s) n x) = some R → lm_cal (lm_sc xs) (d + 8) 100 [.ref 0, .int (Int32.ofNat s), .int (ln_kd kk)] (lm_w m n x) = some R := by
  intro R K
  have hkl := lm_dkl hs
  have u := ln_u168 (sc := lm_sc xs) (d := d + 6) (m := m) (n := n) (x := x) hk hxl hx6
  rw [decide_eq_true h] at u
  refine lm_cal_of (Y := lm_m100) rfl rfl (lm_e100_0 ?_)
  unfold lm_q100_0
  refine lm_cV (lm_t132n (i := s) (d := d + 6) (n := 2) hs (by omega)) ?_
  refine lm_cV (lm_t132 (d := d + 6) (ln_kd_r hk).1 (ln_kd_r hk).2) ?_
  repeat (first
    | ((with_reducible apply lm_sI); exact rfl)
    | ((with_reducible apply lm_sR); exact rfl)
    | ((with_reducible apply lm_sS); exact rfl; exact rfl)
    | ((with_reducible apply lm_sL); exact rfl)
    | ((with_reducible apply lm_sP); exact rfl; exact rfl)
    | ((with_reducible apply lm_sPL); exact rfl; exact rfl)
    | ((with_reducible apply lm_sAA); exact rfl; exact rfl)
    | ((with_reducible apply lm_sA); (first | exact rfl | assumption); omega)
    | ((with_reducible apply lm_sJ); (first | exact rfl | assumption); omega)
    | ((with_reducible apply lm_sB); (first | exact rfl | assumption); omega)
    | ((with_reducible apply lm_wA); (first | exact rfl | assumption); omega)
    | ((with_reducible apply lm_wJ); (first | exact rfl | assumption); omega)
    | ((with_reducible apply lm_wB); (first | exact rfl | assumption); omega)
    | ((with_reducible apply lm_sAl); (first | exact rfl | assumption); omega)
    | ((with_reducible apply lm_iW); decide))
  refine lm_cI u ?_
  rw [show lm_z true = Int32.ofInt 1 from rfl]
  refine lm_cV (lm_u150 (d := d + 6)) ?_
  repeat (first
    | ((with_reducible apply lm_sI); exact rfl)
    | ((with_reducible apply lm_sR); exact rfl)
    | ((with_reducible apply lm_sS); exact rfl; exact rfl)
    | ((with_reducible apply lm_sL); exact rfl)
    | ((with_reducible apply lm_sP); exact rfl; exact rfl)
    | ((with_reducible apply lm_sPL); exact rfl; exact rfl)
    | ((with_reducible apply lm_sAA); exact rfl; exact rfl)
    | ((with_reducible apply lm_sA); (first | exact rfl | assumption); omega)
    | ((with_reducible apply lm_sJ); (first | exact rfl | assumption); omega)
    | ((with_reducible apply lm_sB); (first | exact rfl | assumption); omega)
    | ((with_reducible apply lm_wA); (first | exact rfl | assumption); omega)
    | ((with_reducible apply lm_wJ); (first | exact rfl | assumption); omega)
    | ((with_reducible apply lm_wB); (first | exact rfl | assumption); omega)
    | ((with_reducible apply lm_sAl); (first | exact rfl | assumption); omega)
    | ((with_reducible apply lm_iW); decide))
  refine lm_cV (lm_u165 (d := d + 6) hs) ?_
  rw [lm_K1]
  repeat (first
    | ((with_reducible apply lm_sI); exact rfl)
    | ((with_reducible apply lm_sR); exact rfl)
    | ((with_reducible apply lm_sS); exact rfl; exact rfl)
    | ((with_reducible apply lm_sL); exact rfl)
    | ((with_reducible apply lm_sP); exact rfl; exact rfl)
    | ((with_reducible apply lm_sPL); exact rfl; exact rfl)
    | ((with_reducible apply lm_sAA); exact rfl; exact rfl)
    | ((with_reducible apply lm_sA); (first | exact rfl | assumption); omega)
    | ((with_reducible apply lm_sJ); (first | exact rfl | assumption); omega)
    | ((with_reducible apply lm_sB); (first | exact rfl | assumption); omega)
    | ((with_reducible apply lm_wA); (first | exact rfl | assumption); omega)
    | ((with_reducible apply lm_wJ); (first | exact rfl | assumption); omega)
    | ((with_reducible apply lm_wB); (first | exact rfl | assumption); omega)
    | ((with_reducible apply lm_sAl); (first | exact rfl | assumption); omega)
    | ((with_reducible apply lm_iW); decide))
  refine lm_cI (lm_u173' (d := d + 6) (sc := lm_sc xs) (s := s) lm_cdm_DC.2.1) ?_
  simp only [Nat.reduceDiv, Nat.reduceMod]
  rw [lm_cd_row (by decide), h2]
  by_cases c : sl = 32 + 320 * lm_dk s
  · refine lm_neF (by omega) (by omega) (fun g => g c) ?_
    rw [hb, if_pos c] at K
    exact K
  · refine lm_neT (by omega) (by omega) c ?_
    rw [hb, if_neg c] at K
    exact K
theorem lm_u100f (hx : lm_rom x) (hs : s ≤ 2) (hk : kk ≤ 13) (hxl : m 34 1 = Int32.ofNat xl) (hx6 : xl ≤ 65536) (h : kk = 0 ∨ xl ≤ 255) (h2 : m 28 1 = Int32.ofNat sl) (hsl : sl ≤ 65536) (hn : sl ≠ 32 + 320 * lm_dk s) : lm_cal (lm_sc xs) (d + 8) 100 [.ref 0, .int (Int32.ofNat s), .int (ln_kd kk)] (lm_w m n x) = some (.error (lm_xp x), lm_w (lm_cdm m s) n (lm_xx 16 x)) := by
  refine lm_l100 hs hk hxl hx6 h h2 hsl (b := Int32.ofInt 0) (by rw [if_neg hn]) _ (lm_e100_56 ?_)
  unfold lm_q100_56
  exact lm_cVe (lm_u160e (d := d + 6) hx)
/-- the public's size is right: the packet is not taken; or the answer; or the end -/
theorem lm_u100h (hC : lm_Cok xs C) (hr : ln_rt m) (hz : ∀ k, k < 256 → m 77 k = Int32.ofInt (lm_zd k)) (hx : lm_rom x) (hs : s ≤ 2) (hk : kk ≤ 13) (hxl : m 34 1 = Int32.ofNat xl) (hx6 : xl ≤ 65536) (h : kk = 0 ∨ xl ≤ 255) (h2 : m 28 1 = Int32.ofNat (32 + 320 * lm_dk s)) (hm : m 32 1 = Int32.ofNat ml) (hml : ml ≤ 65536) (hp : m 36 1 = Int32.ofNat pl) (hpl : pl ≤ 65536) : (¬ lm_vt (m 37) s pl ∧ ∃ m', lm_cal (lm_sc xs) (d + 8) 100 [.ref 0, .int (Int32.ofNat s), .int (ln_kd kk)] (lm_w m n x) = some (.ok (some (.int (lm_z false))), lm_w m' n x) ∧ ∀ r, r ≠ 76 → (r < 161 ∨ 167 < r) → m' r = m r) ∨ (lm_vt (m 37) s pl ∧ ln_sA C (m 29) s ∧ (lm_vB C (m 37) s).1 = 256 ∧ ∃ m' n', lm_cal (lm_sc xs) (d + 8) 100 [.ref 0, .int (Int32.ofNat s), .int (ln_kd kk)] (lm_w m n x) = some (.ok (some (.int (lm_z (lm_ev (fun t => lm_b8 (lm_vC C (m 29) (m 37) (lm_vM C (m 29) s kk (m 35) xl (m 33) ml) s t)) (fun t => lm_b8 (m 37 t)) (lm_dsz s) 0)))), lm_w m' n' x) ∧ (∀ r, (r < 5 ∨ 22 < r) → r ≠ 38 → r ≠ 39 → r ≠ 42 → r ≠ 43 → r ≠ 76 → (r < 79 ∨ 193 < r) → m' r = m r) ∧ lm_fN m n m' n' ∧ m' 38 1 = Int32.ofNat (lm_dsz s) ∧ ∀ t, t < lm_dsz s → m' 39 t = lm_vC C (m 29) (m 37) (lm_vM C (m 29) s kk (m 35) xl (m 33) ml) s t) ∨ (lm_vt (m 37) s pl ∧ ¬ (ln_sA C (m 29) s ∧ (lm_vB C (m 37) s).1 = 256) ∧ ∃ m' n', lm_cal (lm_sc xs) (d + 8) 100 [.ref 0, .int (Int32.ofNat s), .int (ln_kd kk)] (lm_w m n x) = some (.error (lm_xp x), lm_w m' n' (lm_xx 15 x)) ∧ (∀ r, (r < 5 ∨ 22 < r) → r ≠ 42 → r ≠ 43 → r ≠ 76 → (r < 79 ∨ 193 < r) → m' r = m r) ∧ lm_fN m n m' n') := by
  have hkl := lm_dkl hs
  have e0 : ∀ r, r ≠ 76 → lm_cdm m s r = m r := fun r hr => lm_cd_row hr
  have D0 : lm_DC (lm_cdm m s) s := lm_cdm_DC
  generalize eM : lm_cdm m s = M at e0 D0
  have hrM : ln_rt M := ⟨by rw [e0 11 (by decide)]; exact hr.1, by rw [e0 17 (by decide)]; exact hr.2⟩
  have tk := lm_u174 (xs := xs) (d := d + 3) (m := M) (n := n) (x := x) (s := s) (pl := pl) hs D0 (by rw [e0 36 (by decide)]; exact hp) hpl
  rw [e0 37 (by decide)] at tk
  rcases tk with ⟨m0, c0, vt, f0, z0⟩ | ⟨m0, c0, vt, f0⟩
  · have e0' : ∀ r, r ≠ 76 → (r < 161 ∨ 167 < r) → m0 r = m r := fun r q1 q2 => by rw [f0 r q2, e0 r q1]
    have hr0 : ln_rt m0 := ⟨by rw [e0' 11 (by decide) (by decide)]; exact hr.1, by rw [e0' 17 (by decide) (by decide)]; exact hr.2⟩
    obtain ⟨m1, n1, c1, f1, g1, p4, p5, pP⟩ := lm_u170 (xs := xs) (C := C) (d := d + 1) (m := m0) (n := n) (x := x) (kk := kk) (xl := xl) (ml := ml) hC hr0 hk h (by rw [e0' 34 (by decide) (by decide)]; exact hxl) hx6 (by rw [e0' 32 (by decide) (by decide)]; exact hm) hml
    rw [e0' 35 (by decide) (by decide), e0' 33 (by decide) (by decide)] at pP
    have e1 : ∀ r, 22 < r → r ≠ 42 → r ≠ 43 → r ≠ 76 → (r < 161 ∨ 167 < r) → m1 r = m r := fun r q1 q2 q3 q4 q5 => by rw [f1 r (by omega) q2 q3, e0' r q4 q5]
    have D1 : lm_DC m1 s := by unfold lm_DC; rw [f1 76 (by decide) (by decide) (by decide), f0 76 (by decide)]; exact D0
    have N1 : lm_fN m n m1 n1 := (lm_fN.of (e0' 11 (by decide) (by decide)) (e0' 17 (by decide) (by decide))).tr g1
    have m133 : m1 33 = m 33 := e1 33 (by decide) (by decide) (by decide) (by decide) (by decide)
    have m129 : m1 29 = m 29 := e1 29 (by decide) (by decide) (by decide) (by decide) (by decide)
    have m137 : m1 37 = m 37 := e1 37 (by decide) (by decide) (by decide) (by decide) (by decide)
    have run : ∀ R, lm_bind (lm_asI (lm_cal (lm_sc xs) (d + 7) 175 [.ref 76, .ref 29, .ref 42, .ref 37, .ref 38])) (fun v19 => lm_when (v19 = 0 ∨ v19 = 1) inferInstance (lm_ret (some (.int v19)))) (lm_w m1 n1 x) = some R → lm_cal (lm_sc xs) (d + 8) 100 [.ref 0, .int (Int32.ofNat s), .int (ln_kd kk)] (lm_w m n x) = some R := by
      intro R K
      clear z0
      refine lm_l100 hs hk hxl hx6 h h2 (by omega) (b := Int32.ofInt 1) (by rw [if_pos rfl]) _ (lm_e100_56 ?_)
      unfold lm_q100_56
      refine lm_cV (lm_u160 (d := d + 6)) ?_
      rw [eM, lm_K5, lm_K1, show Int32.ofInt 6 = Int32.ofNat 6 from rfl]
      repeat (first
    | ((with_reducible apply lm_sI); exact rfl)
    | ((with_reducible apply lm_sR); exact rfl)
    | ((with_reducible apply lm_sS); exact rfl; exact rfl)
    | ((with_reducible apply lm_sL); exact rfl)
    | ((with_reducible apply lm_sP); exact rfl; exact rfl)
    | ((with_reducible apply lm_sPL); exact rfl; exact rfl)
    | ((with_reducible apply lm_sAA); exact rfl; exact rfl)
    | ((with_reducible apply lm_sA); (first | exact rfl | assumption); omega)
    | ((with_reducible apply lm_sJ); (first | exact rfl | assumption); omega)
    | ((with_reducible apply lm_sB); (first | exact rfl | assumption); omega)
    | ((with_reducible apply lm_wA); (first | exact rfl | assumption); omega)
    | ((with_reducible apply lm_wJ); (first | exact rfl | assumption); omega)
    | ((with_reducible apply lm_wB); (first | exact rfl | assumption); omega)
    | ((with_reducible apply lm_sAl); (first | exact rfl | assumption); omega)
    | ((with_reducible apply lm_iW); decide))
      refine lm_cI c0 ?_
      refine lm_iT (show ¬ (1 : Int32) = 0 by decide) ?_
      repeat (first
    | ((with_reducible apply lm_sI); exact rfl)
    | ((with_reducible apply lm_sR); exact rfl)
    | ((with_reducible apply lm_sS); exact rfl; exact rfl)
    | ((with_reducible apply lm_sL); exact rfl)
    | ((with_reducible apply lm_sP); exact rfl; exact rfl)
    | ((with_reducible apply lm_sPL); exact rfl; exact rfl)
    | ((with_reducible apply lm_sAA); exact rfl; exact rfl)
    | ((with_reducible apply lm_sA); (first | exact rfl | assumption); omega)
    | ((with_reducible apply lm_sJ); (first | exact rfl | assumption); omega)
    | ((with_reducible apply lm_sB); (first | exact rfl | assumption); omega)
    | ((with_reducible apply lm_wA); (first | exact rfl | assumption); omega)
    | ((with_reducible apply lm_wJ); (first | exact rfl | assumption); omega)
    | ((with_reducible apply lm_wB); (first | exact rfl | assumption); omega)
    | ((with_reducible apply lm_sAl); (first | exact rfl | assumption); omega)
    | ((with_reducible apply lm_iW); decide))
      refine lm_cV c1 ?_
      repeat (first
    | ((with_reducible apply lm_sI); exact rfl)
    | ((with_reducible apply lm_sR); exact rfl)
    | ((with_reducible apply lm_sS); exact rfl; exact rfl)
    | ((with_reducible apply lm_sL); exact rfl)
    | ((with_reducible apply lm_sP); exact rfl; exact rfl)
    | ((with_reducible apply lm_sPL); exact rfl; exact rfl)
    | ((with_reducible apply lm_sAA); exact rfl; exact rfl)
    | ((with_reducible apply lm_sA); (first | exact rfl | assumption); omega)
    | ((with_reducible apply lm_sJ); (first | exact rfl | assumption); omega)
    | ((with_reducible apply lm_sB); (first | exact rfl | assumption); omega)
    | ((with_reducible apply lm_wA); (first | exact rfl | assumption); omega)
    | ((with_reducible apply lm_wJ); (first | exact rfl | assumption); omega)
    | ((with_reducible apply lm_wB); (first | exact rfl | assumption); omega)
    | ((with_reducible apply lm_sAl); (first | exact rfl | assumption); omega)
    | ((with_reducible apply lm_iW); decide))
      exact K
    have u := lm_u175 (xs := xs) (C := C) (d := d) (m := m1) (n := n1) (x := x) (s := s) (kk := kk) (xl := xl) (ml := ml) (X := m 35) hC (N1.rt hr) hx hs D1 (fun k hk => by rw [e1 77 (by decide) (by decide) (by decide) (by decide) (by decide)]; exact hz k hk) (lm_spl_le h) p4 p5 (by rw [e1 32 (by decide) (by decide) (by decide) (by decide) (by decide)]; exact hm) hml (by rw [m133]; exact pP) (by rw [m137]; exact vt.2.1.1) (fun t ht c hc => by rw [m137, f1 _ (by omega) (by omega) (by omega)]; exact z0 t ht c hc)
    rw [m133, m129, m137] at u
    rcases u with ⟨y1, y2, m2, n2, c2, f2, g2, z2, w2⟩ | ⟨y, m2, n2, c2, f2, g2⟩
    · refine Or.inr (Or.inl ⟨vt, y1, y2, m2, n2, run _ (lm_cI c2 ?_), fun r q1 q2 q3 q4 q5 q6 q7 => by rw [f2 r q1 q2 q3 q7, f1 r q1 q4 q5, e0' r q6 (by omega)], N1.tr g2, z2, w2⟩)
      generalize lm_ev _ _ _ _ = b
      cases b
      · rfl
      · rfl
    · exact Or.inr (Or.inr ⟨vt, y, m2, n2, run _ (lm_cIe c2), fun r q1 q4 q5 q6 q7 => by rw [f2 r q1 q7, f1 r q1 q4 q5, e0' r q6 (by omega)], N1.tr g2⟩)
  · refine Or.inl ⟨vt, m0, ?_, fun r q1 q2 => by rw [f0 r q2, e0 r q1]⟩
    refine lm_l100 hs hk hxl hx6 h h2 (by omega) (b := Int32.ofInt 1) (by rw [if_pos rfl]) _ (lm_e100_56 ?_)
    unfold lm_q100_56
    refine lm_cV (lm_u160 (d := d + 6)) ?_
    rw [eM, lm_K5]
    repeat (first
    | ((with_reducible apply lm_sI); exact rfl)
    | ((with_reducible apply lm_sR); exact rfl)
    | ((with_reducible apply lm_sS); exact rfl; exact rfl)
    | ((with_reducible apply lm_sL); exact rfl)
    | ((with_reducible apply lm_sP); exact rfl; exact rfl)
    | ((with_reducible apply lm_sPL); exact rfl; exact rfl)
    | ((with_reducible apply lm_sAA); exact rfl; exact rfl)
    | ((with_reducible apply lm_sA); (first | exact rfl | assumption); omega)
    | ((with_reducible apply lm_sJ); (first | exact rfl | assumption); omega)
    | ((with_reducible apply lm_sB); (first | exact rfl | assumption); omega)
    | ((with_reducible apply lm_wA); (first | exact rfl | assumption); omega)
    | ((with_reducible apply lm_wJ); (first | exact rfl | assumption); omega)
    | ((with_reducible apply lm_wB); (first | exact rfl | assumption); omega)
    | ((with_reducible apply lm_sAl); (first | exact rfl | assumption); omega)
    | ((with_reducible apply lm_iW); decide))
    refine lm_cI c0 ?_
    refine lm_iF (show ¬ ¬ (0 : Int32) = 0 by decide) ?_
    rfl
end LMVG
