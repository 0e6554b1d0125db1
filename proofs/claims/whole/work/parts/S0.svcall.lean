/-! ===== slhVerify of the class: the call ===== -/
section LMUH
variable {xs : List Int32} {C : lm_CX} {d s kk xl ml pl sl : Nat} {m m' : lm_MI} {n n' : lm_ML} {x : lm_H × Nat × Nat} {A QR Sg : Nat → Int32}
theorem lm_l121a (hs : s ≤ 11) (hk : kk ≤ 13) (hxl : m 34 1 = Int32.ofNat xl) (hx6 : xl ≤ 65536) (h1 : m 28 1 = Int32.ofNat sl) (hsl : sl ≤ 65536) : ∃ m1, lm_SF m1 s ∧ (∀ t, t < 32 → lm_b8 (m1 195 t) = 0) ∧ (∀ q, q ≠ 194 → q ≠ 195 → m1 q = m q) ∧ (¬ (kk = 0 ∨ xl ≤ 255) → lm_rom x → lm_cal (lm_sc xs) (d + 9) 121 [.ref 0, .int (Int32.ofNat s), .int (ln_kd kk)] (lm_w m n x) = some (.error (lm_xp x), lm_w m1 n (lm_xx 14 x))) ∧ ((kk = 0 ∨ xl ≤ 255) → ∀ R, lm_rn (lm_sc xs) (d + 8) lm_m121.2.2.2.2.1 (lm_reg lm_m121.2.2.2.2.2) (59, [(0, .ref 0), (2, .int (ln_kd kk))], [.int (if sl = 2 * lm_sn s then Int32.ofInt 1 else Int32.ofInt 0)]) (lm_w m1 n x) = some R → lm_cal (lm_sc xs) (d + 9) 121 [.ref 0, .int (Int32.ofNat s), .int (ln_kd kk)] (lm_w m n x) = some R) := by
  have hpar := lm_spar s hs
  obtain ⟨m1, c1, F1, z1, f1⟩ := lm_u176c (xs := xs) (d := d + 6) (m := m) (n := n) (x := x) hs
  have u := ln_u168 (sc := lm_sc xs) (d := d + 7) (m := m1) (n := n) (x := x) hk (by rw [f1 34 (by decide) (by decide)]; exact hxl) hx6
  refine ⟨m1, F1, z1, f1, fun h hr => ?_, fun h R KK => ?_⟩
  · rw [decide_eq_false h] at u
    refine lm_cal_of (Y := lm_m121) rfl rfl (lm_e121_0 ?_)
    unfold lm_q121_0
    refine lm_cV (lm_t132n (i := s) (d := d + 7) (n := 11) hs (by omega)) ?_
    refine lm_cV (lm_t132 (d := d + 7) (ln_kd_r hk).1 (ln_kd_r hk).2) ?_
    repeat (first
    | ((with_reducible apply lm_sI); exact rfl)
    | ((with_reducible apply lm_sR); exact rfl)
    | ((with_reducible apply lm_sS); exact rfl; exact rfl)
    | ((with_reducible apply lm_sL); exact rfl)
    | ((with_reducible apply lm_sP); exact rfl; exact rfl)
    | ((with_reducible apply lm_sPL); exact rfl; exact rfl)
    | ((with_reducible apply lm_sAA); exact rfl; exact rfl)
    | ((with_reducible apply lm_sA); (first | exact rfl | assumption); omega)
    | ((with_reducible apply lm_sJ); (first | exact rfl | assumption); omega)
    | ((with_reducible apply lm_sB); (first | exact rfl | assumption); omega)
    | ((with_reducible apply lm_wA); (first | exact rfl | assumption); omega)
    | ((with_reducible apply lm_wJ); (first | exact rfl | assumption); omega)
    | ((with_reducible apply lm_wB); (first | exact rfl | assumption); omega)
    | ((with_reducible apply lm_sAl); (first | exact rfl | assumption); omega)
    | ((with_reducible apply lm_iW); decide))
    refine lm_cV c1 ?_
    repeat (first
    | ((with_reducible apply lm_sI); exact rfl)
    | ((with_reducible apply lm_sR); exact rfl)
    | ((with_reducible apply lm_sS); exact rfl; exact rfl)
    | ((with_reducible apply lm_sL); exact rfl)
    | ((with_reducible apply lm_sP); exact rfl; exact rfl)
    | ((with_reducible apply lm_sPL); exact rfl; exact rfl)
    | ((with_reducible apply lm_sAA); exact rfl; exact rfl)
    | ((with_reducible apply lm_sA); (first | exact rfl | assumption); omega)
    | ((with_reducible apply lm_sJ); (first | exact rfl | assumption); omega)
    | ((with_reducible apply lm_sB); (first | exact rfl | assumption); omega)
    | ((with_reducible apply lm_wA); (first | exact rfl | assumption); omega)
    | ((with_reducible apply lm_wJ); (first | exact rfl | assumption); omega)
    | ((with_reducible apply lm_wB); (first | exact rfl | assumption); omega)
    | ((with_reducible apply lm_sAl); (first | exact rfl | assumption); omega)
    | ((with_reducible apply lm_iW); decide))
    refine lm_cI u ?_
    rw [show lm_z false = Int32.ofInt 0 from rfl]
    exact lm_cVe (lm_u150e (d := d + 7) hr)
  · rw [decide_eq_true h] at u
    refine lm_cal_of (Y := lm_m121) rfl rfl (lm_e121_0 ?_)
    unfold lm_q121_0
    refine lm_cV (lm_t132n (i := s) (d := d + 7) (n := 11) hs (by omega)) ?_
    refine lm_cV (lm_t132 (d := d + 7) (ln_kd_r hk).1 (ln_kd_r hk).2) ?_
    repeat (first
    | ((with_reducible apply lm_sI); exact rfl)
    | ((with_reducible apply lm_sR); exact rfl)
    | ((with_reducible apply lm_sS); exact rfl; exact rfl)
    | ((with_reducible apply lm_sL); exact rfl)
    | ((with_reducible apply lm_sP); exact rfl; exact rfl)
    | ((with_reducible apply lm_sPL); exact rfl; exact rfl)
    | ((with_reducible apply lm_sAA); exact rfl; exact rfl)
    | ((with_reducible apply lm_sA); (first | exact rfl | assumption); omega)
    | ((with_reducible apply lm_sJ); (first | exact rfl | assumption); omega)
    | ((with_reducible apply lm_sB); (first | exact rfl | assumption); omega)
    | ((with_reducible apply lm_wA); (first | exact rfl | assumption); omega)
    | ((with_reducible apply lm_wJ); (first | exact rfl | assumption); omega)
    | ((with_reducible apply lm_wB); (first | exact rfl | assumption); omega)
    | ((with_reducible apply lm_sAl); (first | exact rfl | assumption); omega)
    | ((with_reducible apply lm_iW); decide))
    refine lm_cV c1 ?_
    repeat (first
    | ((with_reducible apply lm_sI); exact rfl)
    | ((with_reducible apply lm_sR); exact rfl)
    | ((with_reducible apply lm_sS); exact rfl; exact rfl)
    | ((with_reducible apply lm_sL); exact rfl)
    | ((with_reducible apply lm_sP); exact rfl; exact rfl)
    | ((with_reducible apply lm_sPL); exact rfl; exact rfl)
    | ((with_reducible apply lm_sAA); exact rfl; exact rfl)
    | ((with_reducible apply lm_sA); (first | exact rfl | assumption); omega)
    | ((with_reducible apply lm_sJ); (first | exact rfl | assumption); omega)
    | ((with_reducible apply lm_sB); (first | exact rfl | assumption); omega)
    | ((with_reducible apply lm_wA); (first | exact rfl | assumption); omega)
    | ((with_reducible apply lm_wJ); (first | exact rfl | assumption); omega)
    | ((with_reducible apply lm_wB); (first | exact rfl | assumption); omega)
    | ((with_reducible apply lm_sAl); (first | exact rfl | assumption); omega)
    | ((with_reducible apply lm_iW); decide))
    refine lm_cI u ?_
    rw [show lm_z true = Int32.ofInt 1 from rfl]
    refine lm_cV (lm_u150 (d := d + 7)) ?_
    rw [lm_K1, lm_K2]
    repeat (first
    | ((with_reducible apply lm_sI); exact rfl)
    | ((with_reducible apply lm_sR); exact rfl)
    | ((with_reducible apply lm_sS); exact rfl; exact rfl)
    | ((with_reducible apply lm_sL); exact rfl)
    | ((with_reducible apply lm_sP); exact rfl; exact rfl)
    | ((with_reducible apply lm_sPL); exact rfl; exact rfl)
    | ((with_reducible apply lm_sAA); exact rfl; exact rfl)
    | ((with_reducible apply lm_sA); (first | exact rfl | assumption); omega)
    | ((with_reducible apply lm_sJ); (first | exact rfl | assumption); omega)
    | ((with_reducible apply lm_sB); (first | exact rfl | assumption); omega)
    | ((with_reducible apply lm_wA); (first | exact rfl | assumption); omega)
    | ((with_reducible apply lm_wJ); (first | exact rfl | assumption); omega)
    | ((with_reducible apply lm_wB); (first | exact rfl | assumption); omega)
    | ((with_reducible apply lm_sAl); (first | exact rfl | assumption); omega)
    | ((with_reducible apply lm_iW); decide))
    simp only [Nat.reduceDiv, Nat.reduceMod]
    rw [f1 28 (by decide) (by decide), h1, F1.2.1, lm_om]
    by_cases c : sl = 2 * lm_sn s
    · rw [if_pos c] at KK
      exact lm_neF (by omega) (by omega) (fun g => g c) KK
    · rw [if_neg c] at KK
      exact lm_neT (by omega) (by omega) c KK
theorem lm_u121e (hx : lm_rom x) (hs : s ≤ 11) (hk : kk ≤ 13) (hxl : m 34 1 = Int32.ofNat xl) (hx6 : xl ≤ 65536) (h1 : m 28 1 = Int32.ofNat sl) (hsl : sl ≤ 65536) (hn : ¬ (kk = 0 ∨ xl ≤ 255)) : ∃ m1, lm_cal (lm_sc xs) (d + 9) 121 [.ref 0, .int (Int32.ofNat s), .int (ln_kd kk)] (lm_w m n x) = some (.error (lm_xp x), lm_w m1 n (lm_xx 14 x)) ∧ ∀ q, q ≠ 194 → q ≠ 195 → m1 q = m q := by
  obtain ⟨m1, F1, z1, f1, K1, K2⟩ := lm_l121a (xs := xs) (d := d) (n := n) (x := x) hs hk hxl hx6 h1 hsl
  exact ⟨m1, K1 hn hx, f1⟩
theorem lm_u121g (hx : lm_rom x) (hs : s ≤ 11) (hk : kk ≤ 13) (hxl : m 34 1 = Int32.ofNat xl) (hx6 : xl ≤ 65536) (hxk : kk = 0 ∨ xl ≤ 255) (h1 : m 28 1 = Int32.ofNat sl) (hsl : sl ≤ 65536) (hn : sl ≠ 2 * lm_sn s) : ∃ m1, lm_cal (lm_sc xs) (d + 9) 121 [.ref 0, .int (Int32.ofNat s), .int (ln_kd kk)] (lm_w m n x) = some (.error (lm_xp x), lm_w m1 n (lm_xx 16 x)) ∧ ∀ q, q ≠ 194 → q ≠ 195 → m1 q = m q := by
  obtain ⟨m1, F1, z1, f1, K1, K2⟩ := lm_l121a (xs := xs) (d := d) (n := n) (x := x) hs hk hxl hx6 h1 hsl
  rw [if_neg hn] at K2
  refine ⟨m1, K2 hxk _ (lm_e121_59 ?_), f1⟩
  unfold lm_q121_59
  exact lm_cVe (lm_u160e (d := d + 7) hx)
/-- a packet of another size -/
theorem lm_u121f (hs : s ≤ 11) (hk : kk ≤ 13) (hxl : m 34 1 = Int32.ofNat xl) (hx6 : xl ≤ 65536) (hxk : kk = 0 ∨ xl ≤ 255) (h1 : m 28 1 = Int32.ofNat (2 * lm_sn s)) (hp : m 36 1 = Int32.ofNat pl) (hpl : pl ≤ 65536) (hn : pl ≠ lm_psz s) : ∃ m1, lm_cal (lm_sc xs) (d + 9) 121 [.ref 0, .int (Int32.ofNat s), .int (ln_kd kk)] (lm_w m n x) = some (.ok (some (.int (lm_z false))), lm_w m1 n x) ∧ ∀ q, q ≠ 194 → q ≠ 195 → m1 q = m q := by
  have hpar := lm_spar s hs
  have hpz := lm_psz_b s hs
  obtain ⟨m1, F1, z1, f1, K1, K2⟩ := lm_l121a (xs := xs) (d := d) (n := n) (x := x) hs hk hxl hx6 h1 (by omega)
  rw [if_pos rfl] at K2
  refine ⟨m1, K2 hxk _ (lm_e121_59 ?_), f1⟩
  unfold lm_q121_59
  refine lm_cV (lm_u160 (d := d + 7)) ?_
  rw [lm_K5]
  repeat (first
    | ((with_reducible apply lm_sI); exact rfl)
    | ((with_reducible apply lm_sR); exact rfl)
    | ((with_reducible apply lm_sS); exact rfl; exact rfl)
    | ((with_reducible apply lm_sL); exact rfl)
    | ((with_reducible apply lm_sP); exact rfl; exact rfl)
    | ((with_reducible apply lm_sPL); exact rfl; exact rfl)
    | ((with_reducible apply lm_sAA); exact rfl; exact rfl)
    | ((with_reducible apply lm_sA); (first | exact rfl | assumption); omega)
    | ((with_reducible apply lm_sJ); (first | exact rfl | assumption); omega)
    | ((with_reducible apply lm_sB); (first | exact rfl | assumption); omega)
    | ((with_reducible apply lm_wA); (first | exact rfl | assumption); omega)
    | ((with_reducible apply lm_wJ); (first | exact rfl | assumption); omega)
    | ((with_reducible apply lm_wB); (first | exact rfl | assumption); omega)
    | ((with_reducible apply lm_sAl); (first | exact rfl | assumption); omega)
    | ((with_reducible apply lm_iW); decide))
  refine lm_cI (lm_u184 (d := d + 6) F1) ?_
  simp only [Nat.reduceDiv, Nat.reduceMod]
  rw [f1 36 (by decide) (by decide), hp]
  refine lm_eqF (by omega) (by omega) hn ?_
  exact lm_iW (by decide) rfl
theorem lm_u121h (hC : lm_Cok xs C) (hr : ln_rt m) (hs : s ≤ 11) (hk : kk ≤ 13) (hxl : m 34 1 = Int32.ofNat xl) (hx6 : xl ≤ 65536) (hxk : kk = 0 ∨ xl ≤ 255) (h1 : m 28 1 = Int32.ofNat (2 * lm_sn s)) (hm : m 32 1 = Int32.ofNat ml) (hml : ml ≤ 65536) (hp : m 36 1 = Int32.ofNat (lm_psz s)) (hA : ∀ t, t < lm_psz s → lm_b8 (m 37 t) = A t) (hQ : ∀ t, t < 2 * lm_sn s → lm_b8 (m 29 t) = QR t) (hSg : ∀ t, t < lm_sgl kk xl ml → Sg t = lm_sgn C kk (m 35) xl (m 33) ml t) : ∃ m' n', lm_cal (lm_sc xs) (d + 9) 121 [.ref 0, .int (Int32.ofNat s), .int (ln_kd kk)] (lm_w m n x) = some (.ok (some (.int (lm_z (lm_ev (lm_vvR C s QR (fun _ => 0) (lm_plD C s A QR Sg (lm_sgl kk xl ml)) A) (fun t => QR (lm_sn s + t)) (lm_sn s) 0)))), lm_w m' n' x) ∧ (∀ r, (r < 5 ∨ 25 < r) → r ≠ 38 → r ≠ 39 → r ≠ 42 → r ≠ 43 → (r < 194 ∨ 202 < r) → m' r = m r) ∧ lm_fN m n m' n' ∧ m' 38 1 = Int32.ofNat (lm_sn s) ∧ ∀ t, t < lm_sn s → lm_b8 (m' 39 t) = lm_vvR C s QR (fun _ => 0) (lm_plD C s A QR Sg (lm_sgl kk xl ml)) A t := by
  have hpar := lm_spar s hs
  have hpz := lm_psz_b s hs
  have hsp : lm_spl kk xl ≤ 332 := lm_spl_le hxk
  obtain ⟨m1, F1, z1, f1, K1, K2⟩ := lm_l121a (xs := xs) (d := d) (n := n) (x := x) hs hk hxl hx6 h1 (by omega)
  rw [if_pos rfl] at K2
  have hr1 : ln_rt m1 := ⟨by rw [f1 11 (by decide) (by decide)]; exact hr.1, by rw [f1 17 (by decide) (by decide)]; exact hr.2⟩
  obtain ⟨m2, n2, c2, f2, g2, s4, s5, s6⟩ := lm_u170 (xs := xs) (d := d + 2) (x := x) (m := m1) (n := n) hC hr1 hk hxk (by rw [f1 34 (by decide) (by decide)]; exact hxl) hx6 (by rw [f1 32 (by decide) (by decide)]; exact hm) hml
  rw [f1 35 (by decide) (by decide), f1 33 (by decide) (by decide)] at s6
  have e2 : ∀ r, 22 < r → r ≠ 42 → r ≠ 43 → r ≠ 194 → r ≠ 195 → m2 r = m r := fun r q1 q2 q3 q4 q5 => by rw [f2 r (by omega) q2 q3, f1 r q4 q5]
  have SF2 : lm_SF m2 s := by unfold lm_SF; rw [f2 194 (by decide) (by decide) (by decide)]; exact F1
  have G2 : lm_Sgd kk xl ml Sg m2 := ⟨s4, s5, by rw [e2 32 (by decide) (by decide) (by decide) (by decide) (by decide)]; exact hm, fun t ht => by
      rw [s6 t ht, hSg t (by unfold lm_sgl; omega)]
      unfold lm_sgn
      rw [if_pos ht], fun h1 t ht => by
      rw [e2 33 (by decide) (by decide) (by decide) (by decide) (by decide), hSg _ (by unfold lm_sgl; rw [if_pos h1]; omega)]
      unfold lm_sgn
      rw [if_neg (by omega), Nat.add_sub_cancel_left]⟩
  obtain ⟨m3, n3, c3, f3, g3, l3, v3⟩ := lm_u191 (xs := xs) (d := d) (x := x) (m := m2) (n := n2) (A := A) (QR := QR) hC hs SF2 (g2.rt hr1) (by rw [f2 195 (by decide) (by decide) (by decide)]; exact z1) G2 hsp hml (by rw [e2 37 (by decide) (by decide) (by decide) (by decide) (by decide)]; exact hA) (by rw [e2 29 (by decide) (by decide) (by decide) (by decide) (by decide)]; exact hQ)
  refine ⟨m3, n3, K2 hxk _ (lm_e121_59 ?_), fun r q1 q2 q3 q4 q5 q6 => by rw [f3 r q1 q2 q3 (by omega), f2 r (by omega) q4 q5, f1 r (by omega) (by omega)], lm_fN.tr (lm_fN.of (f1 11 (by decide) (by decide)) (f1 17 (by decide) (by decide))) (g2.tr g3), l3, v3⟩
  clear v3 s6 hA hQ hSg G2
  unfold lm_q121_59
  refine lm_cV (lm_u160 (d := d + 7)) ?_
  rw [lm_K5, lm_K1, show Int32.ofInt 6 = Int32.ofNat 6 from rfl]
  repeat (first
    | ((with_reducible apply lm_sI); exact rfl)
    | ((with_reducible apply lm_sR); exact rfl)
    | ((with_reducible apply lm_sS); exact rfl; exact rfl)
    | ((with_reducible apply lm_sL); exact rfl)
    | ((with_reducible apply lm_sP); exact rfl; exact rfl)
    | ((with_reducible apply lm_sPL); exact rfl; exact rfl)
    | ((with_reducible apply lm_sAA); exact rfl; exact rfl)
    | ((with_reducible apply lm_sA); (first | exact rfl | assumption); omega)
    | ((with_reducible apply lm_sJ); (first | exact rfl | assumption); omega)
    | ((with_reducible apply lm_sB); (first | exact rfl | assumption); omega)
    | ((with_reducible apply lm_wA); (first | exact rfl | assumption); omega)
    | ((with_reducible apply lm_wJ); (first | exact rfl | assumption); omega)
    | ((with_reducible apply lm_wB); (first | exact rfl | assumption); omega)
    | ((with_reducible apply lm_sAl); (first | exact rfl | assumption); omega)
    | ((with_reducible apply lm_iW); decide))
  refine lm_cI (lm_u184 (d := d + 6) F1) ?_
  simp only [Nat.reduceDiv, Nat.reduceMod]
  rw [f1 36 (by decide) (by decide), hp]
  refine lm_eqT (by omega) (by omega) rfl ?_
  repeat (first
    | ((with_reducible apply lm_sI); exact rfl)
    | ((with_reducible apply lm_sR); exact rfl)
    | ((with_reducible apply lm_sS); exact rfl; exact rfl)
    | ((with_reducible apply lm_sL); exact rfl)
    | ((with_reducible apply lm_sP); exact rfl; exact rfl)
    | ((with_reducible apply lm_sPL); exact rfl; exact rfl)
    | ((with_reducible apply lm_sAA); exact rfl; exact rfl)
    | ((with_reducible apply lm_sA); (first | exact rfl | assumption); omega)
    | ((with_reducible apply lm_sJ); (first | exact rfl | assumption); omega)
    | ((with_reducible apply lm_sB); (first | exact rfl | assumption); omega)
    | ((with_reducible apply lm_wA); (first | exact rfl | assumption); omega)
    | ((with_reducible apply lm_wJ); (first | exact rfl | assumption); omega)
    | ((with_reducible apply lm_wB); (first | exact rfl | assumption); omega)
    | ((with_reducible apply lm_sAl); (first | exact rfl | assumption); omega)
    | ((with_reducible apply lm_iW); decide))
  refine lm_cV c2 ?_
  repeat (first
    | ((with_reducible apply lm_sI); exact rfl)
    | ((with_reducible apply lm_sR); exact rfl)
    | ((with_reducible apply lm_sS); exact rfl; exact rfl)
    | ((with_reducible apply lm_sL); exact rfl)
    | ((with_reducible apply lm_sP); exact rfl; exact rfl)
    | ((with_reducible apply lm_sPL); exact rfl; exact rfl)
    | ((with_reducible apply lm_sAA); exact rfl; exact rfl)
    | ((with_reducible apply lm_sA); (first | exact rfl | assumption); omega)
    | ((with_reducible apply lm_sJ); (first | exact rfl | assumption); omega)
    | ((with_reducible apply lm_sB); (first | exact rfl | assumption); omega)
    | ((with_reducible apply lm_wA); (first | exact rfl | assumption); omega)
    | ((with_reducible apply lm_wJ); (first | exact rfl | assumption); omega)
    | ((with_reducible apply lm_wB); (first | exact rfl | assumption); omega)
    | ((with_reducible apply lm_sAl); (first | exact rfl | assumption); omega)
    | ((with_reducible apply lm_iW); decide))
  refine lm_cI c3 ?_
  exact lm_iW (lm_z01 _) rfl
end LMUH
