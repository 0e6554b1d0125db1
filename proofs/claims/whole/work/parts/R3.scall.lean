/-! ===== slhSign of the class: the call ===== -/
section LMTO
variable {xs : List Int32} {C : lm_CX} {d s k l kk xl ml rl sl : Nat} {m m' : lm_MI} {n n' : lm_ML} {x : lm_H × Nat × Nat} {Sg Kb Rn : Nat → Int32} {v w : Int32}
theorem lm_l110a (hs : s ≤ 11) (hk : kk ≤ 13) (hxl : m 34 1 = Int32.ofNat xl) (hx6 : xl ≤ 65536) (h1 : m 26 1 = Int32.ofNat rl) (hrl : rl ≤ 65536) : ∃ m1, lm_SF m1 s ∧ (∀ t, t < 32 → lm_b8 (m1 195 t) = 0) ∧ (∀ q, q ≠ 194 → q ≠ 195 → m1 q = m q) ∧ (¬ (kk = 0 ∨ xl ≤ 255) → lm_rom x → lm_cal (lm_sc xs) (d + 10) 110 [.ref 0, .int (Int32.ofNat s), .int (ln_kd kk)] (lm_w m n x) = some (.error (lm_xp x), lm_w m1 n (lm_xx 14 x))) ∧ ((kk = 0 ∨ xl ≤ 255) → ∀ R, lm_rn (lm_sc xs) (d + 9) lm_m110.2.2.2.2.1 (lm_reg lm_m110.2.2.2.2.2) (69, [(0, .ref 0), (2, .int (ln_kd kk))], [.int (if rl = 0 ∨ rl = lm_sn s then Int32.ofInt 1 else Int32.ofInt 0)]) (lm_w m1 n x) = some R → lm_cal (lm_sc xs) (d + 10) 110 [.ref 0, .int (Int32.ofNat s), .int (ln_kd kk)] (lm_w m n x) = some R) := by
  have hpar := lm_spar s hs
  obtain ⟨m1, c1, F1, z1, f1⟩ := lm_u176c (xs := xs) (d := d + 7) (m := m) (n := n) (x := x) hs
  have u := ln_u168 (sc := lm_sc xs) (d := d + 8) (m := m1) (n := n) (x := x) hk (by rw [f1 34 (by decide) (by decide)]; exact hxl) hx6
  refine ⟨m1, F1, z1, f1, fun h hr => ?_, fun h R KK => ?_⟩
  · rw [decide_eq_false h] at u
    refine lm_cal_of (Y := lm_m110) rfl rfl (lm_e110_0 ?_)
    unfold lm_q110_0
    refine lm_cV (lm_t132n (i := s) (d := d + 8) (n := 11) hs (by omega)) ?_
    refine lm_cV (lm_t132 (d := d + 8) (ln_kd_r hk).1 (ln_kd_r hk).2) ?_
    repeat (first
    | ((with_reducible apply lm_sI); exact rfl)
    | ((with_reducible apply lm_sR); exact rfl)
    | ((with_reducible apply lm_sS); exact rfl; exact rfl)
    | ((with_reducible apply lm_sL); exact rfl)
    | ((with_reducible apply lm_sP); exact rfl; exact rfl)
    | ((with_reducible apply lm_sPL); exact rfl; exact rfl)
    | ((with_reducible apply lm_sAA); exact rfl; exact rfl)
    | ((with_reducible apply lm_sA); (first | exact rfl | assumption); omega)
    | ((with_reducible apply lm_sJ); (first | exact rfl | assumption); omega)
    | ((with_reducible apply lm_sB); (first | exact rfl | assumption); omega)
    | ((with_reducible apply lm_wA); (first | exact rfl | assumption); omega)
    | ((with_reducible apply lm_wJ); (first | exact rfl | assumption); omega)
    | ((with_reducible apply lm_wB); (first | exact rfl | assumption); omega)
    | ((with_reducible apply lm_sAl); (first | exact rfl | assumption); omega)
    | ((with_reducible apply lm_iW); decide))
    refine lm_cV c1 ?_
    repeat (first
    | ((with_reducible apply lm_sI); exact rfl)
    | ((with_reducible apply lm_sR); exact rfl)
    | ((with_reducible apply lm_sS); exact rfl; exact rfl)
    | ((with_reducible apply lm_sL); exact rfl)
    | ((with_reducible apply lm_sP); exact rfl; exact rfl)
    | ((with_reducible apply lm_sPL); exact rfl; exact rfl)
    | ((with_reducible apply lm_sAA); exact rfl; exact rfl)
    | ((with_reducible apply lm_sA); (first | exact rfl | assumption); omega)
    | ((with_reducible apply lm_sJ); (first | exact rfl | assumption); omega)
    | ((with_reducible apply lm_sB); (first | exact rfl | assumption); omega)
    | ((with_reducible apply lm_wA); (first | exact rfl | assumption); omega)
    | ((with_reducible apply lm_wJ); (first | exact rfl | assumption); omega)
    | ((with_reducible apply lm_wB); (first | exact rfl | assumption); omega)
    | ((with_reducible apply lm_sAl); (first | exact rfl | assumption); omega)
    | ((with_reducible apply lm_iW); decide))
    refine lm_cI u ?_
    rw [show lm_z false = Int32.ofInt 0 from rfl]
    exact lm_cVe (lm_u150e (d := d + 8) hr)
  · rw [decide_eq_true h] at u
    have e64 : (rl = 0 ∨ rl = lm_sn s) → lm_rn (lm_sc xs) (d + 9) lm_m110.2.2.2.2.1 (lm_reg lm_m110.2.2.2.2.2) (64, [(0, .ref 0), (2, .int (ln_kd kk))], []) (lm_w m1 n x) = some R := by
      intro e
      rw [if_pos e] at KK
      refine lm_e110_64 ?_
      unfold lm_q110_64
      exact KK
    refine lm_cal_of (Y := lm_m110) rfl rfl (lm_e110_0 ?_)
    unfold lm_q110_0
    refine lm_cV (lm_t132n (i := s) (d := d + 8) (n := 11) hs (by omega)) ?_
    refine lm_cV (lm_t132 (d := d + 8) (ln_kd_r hk).1 (ln_kd_r hk).2) ?_
    repeat (first
    | ((with_reducible apply lm_sI); exact rfl)
    | ((with_reducible apply lm_sR); exact rfl)
    | ((with_reducible apply lm_sS); exact rfl; exact rfl)
    | ((with_reducible apply lm_sL); exact rfl)
    | ((with_reducible apply lm_sP); exact rfl; exact rfl)
    | ((with_reducible apply lm_sPL); exact rfl; exact rfl)
    | ((with_reducible apply lm_sAA); exact rfl; exact rfl)
    | ((with_reducible apply lm_sA); (first | exact rfl | assumption); omega)
    | ((with_reducible apply lm_sJ); (first | exact rfl | assumption); omega)
    | ((with_reducible apply lm_sB); (first | exact rfl | assumption); omega)
    | ((with_reducible apply lm_wA); (first | exact rfl | assumption); omega)
    | ((with_reducible apply lm_wJ); (first | exact rfl | assumption); omega)
    | ((with_reducible apply lm_wB); (first | exact rfl | assumption); omega)
    | ((with_reducible apply lm_sAl); (first | exact rfl | assumption); omega)
    | ((with_reducible apply lm_iW); decide))
    refine lm_cV c1 ?_
    repeat (first
    | ((with_reducible apply lm_sI); exact rfl)
    | ((with_reducible apply lm_sR); exact rfl)
    | ((with_reducible apply lm_sS); exact rfl; exact rfl)
    | ((with_reducible apply lm_sL); exact rfl)
    | ((with_reducible apply lm_sP); exact rfl; exact rfl)
    | ((with_reducible apply lm_sPL); exact rfl; exact rfl)
    | ((with_reducible apply lm_sAA); exact rfl; exact rfl)
    | ((with_reducible apply lm_sA); (first | exact rfl | assumption); omega)
    | ((with_reducible apply lm_sJ); (first | exact rfl | assumption); omega)
    | ((with_reducible apply lm_sB); (first | exact rfl | assumption); omega)
    | ((with_reducible apply lm_wA); (first | exact rfl | assumption); omega)
    | ((with_reducible apply lm_wJ); (first | exact rfl | assumption); omega)
    | ((with_reducible apply lm_wB); (first | exact rfl | assumption); omega)
    | ((with_reducible apply lm_sAl); (first | exact rfl | assumption); omega)
    | ((with_reducible apply lm_iW); decide))
    refine lm_cI u ?_
    rw [show lm_z true = Int32.ofInt 1 from rfl]
    refine lm_cV (lm_u150 (d := d + 8)) ?_
    rw [lm_K0]
    repeat (first
    | ((with_reducible apply lm_sI); exact rfl)
    | ((with_reducible apply lm_sR); exact rfl)
    | ((with_reducible apply lm_sS); exact rfl; exact rfl)
    | ((with_reducible apply lm_sL); exact rfl)
    | ((with_reducible apply lm_sP); exact rfl; exact rfl)
    | ((with_reducible apply lm_sPL); exact rfl; exact rfl)
    | ((with_reducible apply lm_sAA); exact rfl; exact rfl)
    | ((with_reducible apply lm_sA); (first | exact rfl | assumption); omega)
    | ((with_reducible apply lm_sJ); (first | exact rfl | assumption); omega)
    | ((with_reducible apply lm_sB); (first | exact rfl | assumption); omega)
    | ((with_reducible apply lm_wA); (first | exact rfl | assumption); omega)
    | ((with_reducible apply lm_wJ); (first | exact rfl | assumption); omega)
    | ((with_reducible apply lm_wB); (first | exact rfl | assumption); omega)
    | ((with_reducible apply lm_sAl); (first | exact rfl | assumption); omega)
    | ((with_reducible apply lm_iW); decide))
    simp only [Nat.reduceDiv, Nat.reduceMod]
    rw [f1 26 (by decide) (by decide), h1, F1.2.1]
    by_cases cn : rl = lm_sn s
    · refine lm_eqT (by omega) (by omega) cn ?_
      exact e64 (Or.inr cn)
    · refine lm_eqF (by omega) (by omega) cn ?_
      repeat (first
    | ((with_reducible apply lm_sI); exact rfl)
    | ((with_reducible apply lm_sR); exact rfl)
    | ((with_reducible apply lm_sS); exact rfl; exact rfl)
    | ((with_reducible apply lm_sL); exact rfl)
    | ((with_reducible apply lm_sP); exact rfl; exact rfl)
    | ((with_reducible apply lm_sPL); exact rfl; exact rfl)
    | ((with_reducible apply lm_sAA); exact rfl; exact rfl)
    | ((with_reducible apply lm_sA); (first | exact rfl | assumption); omega)
    | ((with_reducible apply lm_sJ); (first | exact rfl | assumption); omega)
    | ((with_reducible apply lm_sB); (first | exact rfl | assumption); omega)
    | ((with_reducible apply lm_wA); (first | exact rfl | assumption); omega)
    | ((with_reducible apply lm_wJ); (first | exact rfl | assumption); omega)
    | ((with_reducible apply lm_wB); (first | exact rfl | assumption); omega)
    | ((with_reducible apply lm_sAl); (first | exact rfl | assumption); omega)
    | ((with_reducible apply lm_iW); decide))
      simp only [Nat.reduceDiv, Nat.reduceMod]
      rw [f1 26 (by decide) (by decide), h1]
      by_cases c0 : rl = 0
      · rw [c0]
        refine lm_iF (show ¬ ¬ Int32.ofNat 0 = 0 by decide) ?_
        exact e64 (Or.inl c0)
      · refine lm_neT (b := 0) (by omega) (by omega) c0 ?_
        rw [if_neg (by omega)] at KK
        exact KK
theorem lm_l110b {m1 : lm_MI} (hF : lm_SF m1 s) (h2 : m1 30 1 = Int32.ofNat sl) (hsl : sl ≤ 65536) (hs : s ≤ 11) : ∀ R, lm_rn (lm_sc xs) (d + 9) lm_m110.2.2.2.2.1 (lm_reg lm_m110.2.2.2.2.2) (98, [(0, .ref 0), (2, .int (ln_kd kk))], [.int (if sl = 4 * lm_sn s then Int32.ofInt 1 else Int32.ofInt 0)]) (lm_w m1 n x) = some R → lm_rn (lm_sc xs) (d + 9) lm_m110.2.2.2.2.1 (lm_reg lm_m110.2.2.2.2.2) (69, [(0, .ref 0), (2, .int (ln_kd kk))], [.int (Int32.ofInt 1)]) (lm_w m1 n x) = some R := by
  intro R KK
  have hpar := lm_spar s hs
  refine lm_e110_69 ?_
  unfold lm_q110_69
  refine lm_cV (lm_u150 (d := d + 8)) ?_
  rw [lm_K2, show Int32.ofInt 4 = Int32.ofNat 4 from rfl]
  repeat (first
    | ((with_reducible apply lm_sI); exact rfl)
    | ((with_reducible apply lm_sR); exact rfl)
    | ((with_reducible apply lm_sS); exact rfl; exact rfl)
    | ((with_reducible apply lm_sL); exact rfl)
    | ((with_reducible apply lm_sP); exact rfl; exact rfl)
    | ((with_reducible apply lm_sPL); exact rfl; exact rfl)
    | ((with_reducible apply lm_sAA); exact rfl; exact rfl)
    | ((with_reducible apply lm_sA); (first | exact rfl | assumption); omega)
    | ((with_reducible apply lm_sJ); (first | exact rfl | assumption); omega)
    | ((with_reducible apply lm_sB); (first | exact rfl | assumption); omega)
    | ((with_reducible apply lm_wA); (first | exact rfl | assumption); omega)
    | ((with_reducible apply lm_wJ); (first | exact rfl | assumption); omega)
    | ((with_reducible apply lm_wB); (first | exact rfl | assumption); omega)
    | ((with_reducible apply lm_sAl); (first | exact rfl | assumption); omega)
    | ((with_reducible apply lm_iW); decide))
  simp only [Nat.reduceDiv, Nat.reduceMod]
  rw [h2, hF.2.1, lm_om]
  by_cases c : sl = 4 * lm_sn s
  · rw [if_pos c] at KK
    exact lm_neF (by omega) (by omega) (fun g => g c) KK
  · rw [if_neg c] at KK
    exact lm_neT (by omega) (by omega) c KK
/-- refused -/
theorem lm_u110e (hx : lm_rom x) (hs : s ≤ 11) (hk : kk ≤ 13) (hxl : m 34 1 = Int32.ofNat xl) (hx6 : xl ≤ 65536) (h1 : m 26 1 = Int32.ofNat rl) (hrl : rl ≤ 65536) (hn : ¬ ((kk = 0 ∨ xl ≤ 255) ∧ (rl = 0 ∨ rl = lm_sn s))) : ∃ m1, lm_cal (lm_sc xs) (d + 10) 110 [.ref 0, .int (Int32.ofNat s), .int (ln_kd kk)] (lm_w m n x) = some (.error (lm_xp x), lm_w m1 n (lm_xx 14 x)) ∧ ∀ q, q ≠ 194 → q ≠ 195 → m1 q = m q := by
  obtain ⟨m1, F1, z1, f1, K1, K2⟩ := lm_l110a (xs := xs) (d := d) (n := n) (x := x) hs hk hxl hx6 h1 hrl
  refine ⟨m1, ?_, f1⟩
  by_cases c : kk = 0 ∨ xl ≤ 255
  · refine K2 c _ (lm_e110_69 ?_)
    unfold lm_q110_69
    rw [if_neg (fun g => hn ⟨c, g⟩)]
    exact lm_cVe (lm_u150e (d := d + 8) hx)
  · exact K1 c hx
theorem lm_u110g (hx : lm_rom x) (hs : s ≤ 11) (hk : kk ≤ 13) (hxl : m 34 1 = Int32.ofNat xl) (hx6 : xl ≤ 65536) (hxk : kk = 0 ∨ xl ≤ 255) (h1 : m 26 1 = Int32.ofNat rl) (hrl : rl = 0 ∨ rl = lm_sn s) (h2 : m 30 1 = Int32.ofNat sl) (hsl : sl ≤ 65536) (hn : sl ≠ 4 * lm_sn s) : ∃ m1, lm_cal (lm_sc xs) (d + 10) 110 [.ref 0, .int (Int32.ofNat s), .int (ln_kd kk)] (lm_w m n x) = some (.error (lm_xp x), lm_w m1 n (lm_xx 16 x)) ∧ ∀ q, q ≠ 194 → q ≠ 195 → m1 q = m q := by
  have hpar := lm_spar s hs
  obtain ⟨m1, F1, z1, f1, K1, K2⟩ := lm_l110a (xs := xs) (d := d) (n := n) (x := x) hs hk hxl hx6 h1 (by omega)
  rw [if_pos hrl] at K2
  refine ⟨m1, K2 hxk _ (lm_l110b F1 (by rw [f1 30 (by decide) (by decide)]; exact h2) hsl hs _ (lm_e110_98 ?_)), f1⟩
  unfold lm_q110_98
  rw [if_neg hn]
  exact lm_cVe (lm_u160e (d := d + 8) hx)
theorem lm_u110h (hC : lm_Cok xs C) (hr : ln_rt m) (hs : s ≤ 11) (hk : kk ≤ 13) (hxl : m 34 1 = Int32.ofNat xl) (hx6 : xl ≤ 65536) (hxk : kk = 0 ∨ xl ≤ 255) (hm : m 32 1 = Int32.ofNat ml) (hml : ml ≤ 65536) (h1 : m 26 1 = Int32.ofNat rl) (hrl : rl = 0 ∨ rl = lm_sn s) (h2 : m 30 1 = Int32.ofNat (4 * lm_sn s)) (hK : ∀ t, t < 4 * lm_sn s → lm_b8 (m 31 t) = Kb t) (hRn : ∀ t, t < lm_sn s → Rn t = if rl = 0 then Kb (2 * lm_sn s + t) else lm_b8 (m 27 t)) (hSg : ∀ t, t < lm_sgl kk xl ml → Sg t = lm_sgn C kk (m 35) xl (m 33) ml t) : ∃ m' n', lm_cal (lm_sc xs) (d + 10) 110 [.ref 0, .int (Int32.ofNat s), .int (ln_kd kk)] (lm_w m n x) = some (.ok (some (.int (Int32.ofNat (lm_psz s)))), lm_w m' n' x) ∧ (∀ r, (r < 5 ∨ 25 < r) → r ≠ 36 → r ≠ 37 → r ≠ 42 → r ≠ 43 → (r < 194 ∨ 202 < r) → m' r = m r) ∧ lm_fN m n m' n' ∧ m' 36 1 = Int32.ofNat (lm_psz s) ∧ ∀ t, t < lm_psz s → lm_b8 (m' 37 t) = lm_pkt C s Kb Rn Sg (lm_sgl kk xl ml) t := by
  have hpar := lm_spar s hs
  obtain ⟨m1, F1, z1, f1, K1, K2⟩ := lm_l110a (xs := xs) (d := d) (n := n) (x := x) hs hk hxl hx6 h1 (by omega)
  have e : ∀ r, r ≠ 194 → r ≠ 195 → m1 r = m r := f1
  obtain ⟨m2, n2, c2, f2, g2, l2, v2⟩ := lm_l110 (xs := xs) (d := d) (x := x) (m := m1) (n := n) (Kb := Kb) (Rn := Rn) (Sg := Sg) hC hs F1 ⟨by rw [e 11 (by decide) (by decide)]; exact hr.1, by rw [e 17 (by decide) (by decide)]; exact hr.2⟩ z1 hk hxk (by rw [e 34 (by decide) (by decide)]; exact hxl) hx6 (by rw [e 32 (by decide) (by decide)]; exact hm) hml (by rw [e 26 (by decide) (by decide)]; exact h1) hrl (by rw [e 31 (by decide) (by decide)]; exact hK) (by rw [e 27 (by decide) (by decide)]; exact hRn) (by rw [e 35 (by decide) (by decide), e 33 (by decide) (by decide)]; exact hSg)
  have K3 := lm_l110b (xs := xs) (d := d) (kk := kk) (n := n) (x := x) F1 (by rw [e 30 (by decide) (by decide)]; exact h2) (by omega) hs
  rw [if_pos rfl] at K3
  rw [if_pos hrl] at K2
  refine ⟨m2, n2, K2 hxk _ (K3 _ c2), fun r q1 q2 q3 q4 q5 q6 => by rw [f2 r q1 q2 q3 q4 q5 q6, e r (by omega) (by omega)], lm_fN.tr (lm_fN.of (e 11 (by decide) (by decide)) (e 17 (by decide) (by decide))) g2, l2, v2⟩
end LMTO
