/-! ===== dsaVerify of the reference: the call ===== -/
section LMRF
variable {sc : lm_H} {C : lm_CX} {d s kk xl ml pl sl : Nat} {m : lm_MI} {n : lm_ML} {x : lm_H × Nat × Nat} {K Q X Mg : Nat → Int32}
/-- up to the context's check -/
theorem lm_l32j (hs : s ≤ 2) (hk : kk ≤ 13) (hx : m 214 4 = Int32.ofNat xl) (hx6 : xl ≤ 65536) : ∀ RR, lm_bind (lm_sel [(11, 49)] (some (.ref 203))) (fun y6 => lm_bind (lm_asI (lm_cal sc (d + 7) y6 [.ref 203, .int (lm_z (decide (kk = 0 ∨ xl ≤ 255))), .int (Int32.ofInt 2)])) fun v7 => lm_if .eq v7 0 (lm_when ((Int32.ofInt 0) = 0 ∨ (Int32.ofInt 0) = 1) inferInstance (lm_ret (some (.int (Int32.ofInt 0))))) (lm_bind (lm_gR 4410 203) fun v8 => lm_bind (lm_iald sc v8 (Int32.ofInt 1)) fun v9 => lm_bind (lm_gI 4528 203) fun v10 => lm_if .ne v9 ((Int32.ofInt 32) + ((Int32.ofInt 320) * v10)) (lm_rn sc (d + 7) lm_m32.2.2.2.2.1 (lm_reg lm_m32.2.2.2.2.2) (78, [(0, .ref 203), (2, .int (ln_kd kk))], [.int (Int32.ofInt 0), .ref 203])) (lm_rn sc (d + 7) lm_m32.2.2.2.2.1 (lm_reg lm_m32.2.2.2.2.2) (78, [(0, .ref 203), (2, .int (ln_kd kk))], [.int (Int32.ofInt 1), .ref 203])))) (lm_w (lm_dm2 (lm_u m 203 4 0) s) n x) = some RR → lm_cal sc (d + 8) 32 [.ref 203, .int (Int32.ofNat s), .int (ln_kd kk)] (lm_w m n x) = some RR := by
  intro RR KK
  have u86 := lm_u86 (sc := sc) (d := d + 6) (m := lm_u m 203 4 0) (n := n) (x := x) hs
  have a1 : lm_dm2 (lm_u m 203 4 0) s 214 = m 214 := by rw [lm_dm2_row (by decide) (by decide), lm_u_row (by decide)]
  generalize lm_dm2 (lm_u m 203 4 0) s = M at *
  have u96 := ln_u96 (sc := sc) (d := d + 6) (m := M) (n := n) (x := x) (kk := kk) (xl := xl) hk (by rw [a1]; exact hx) hx6
  refine lm_cal_of (Y := lm_m32) rfl rfl (lm_e32_0 ?_)
  unfold lm_q32_0
  refine lm_cI (lm_t52n (i := s) (d := d + 6) (n := 2) hs (by omega)) ?_
  refine lm_iF (show ¬ (1 : Int32) = 0 by decide) ?_
  refine lm_cI (lm_t52t (d := d + 6) (ln_kd_r hk)) ?_
  refine lm_iF (show ¬ (1 : Int32) = 0 by decide) ?_
  refine lm_e32_25 ?_
  unfold lm_q32_25
  repeat (first
    | ((with_reducible apply lm_sI); exact rfl)
    | ((with_reducible apply lm_sR); exact rfl)
    | ((with_reducible apply lm_sS); exact rfl; exact rfl)
    | ((with_reducible apply lm_sL); exact rfl)
    | ((with_reducible apply lm_sP); exact rfl; exact rfl)
    | ((with_reducible apply lm_sPL); exact rfl; exact rfl)
    | ((with_reducible apply lm_sAA); exact rfl; exact rfl)
    | ((with_reducible apply lm_sA); (first | exact rfl | assumption); omega)
    | ((with_reducible apply lm_sJ); (first | exact rfl | assumption); omega)
    | ((with_reducible apply lm_sB); (first | exact rfl | assumption); omega)
    | ((with_reducible apply lm_wA); (first | exact rfl | assumption); omega)
    | ((with_reducible apply lm_wJ); (first | exact rfl | assumption); omega)
    | ((with_reducible apply lm_wB); (first | exact rfl | assumption); omega)
    | ((with_reducible apply lm_sAl); (first | exact rfl | assumption); omega)
    | ((with_reducible apply lm_iW); decide))
  refine lm_cI (lm_u49 (d := d + 6) true) ?_
  refine lm_iT (show ¬ (1 : Int32) = 0 by decide) ?_
  repeat (first
    | ((with_reducible apply lm_sI); exact rfl)
    | ((with_reducible apply lm_sR); exact rfl)
    | ((with_reducible apply lm_sS); exact rfl; exact rfl)
    | ((with_reducible apply lm_sL); exact rfl)
    | ((with_reducible apply lm_sP); exact rfl; exact rfl)
    | ((with_reducible apply lm_sPL); exact rfl; exact rfl)
    | ((with_reducible apply lm_sAA); exact rfl; exact rfl)
    | ((with_reducible apply lm_sA); (first | exact rfl | assumption); omega)
    | ((with_reducible apply lm_sJ); (first | exact rfl | assumption); omega)
    | ((with_reducible apply lm_sB); (first | exact rfl | assumption); omega)
    | ((with_reducible apply lm_wA); (first | exact rfl | assumption); omega)
    | ((with_reducible apply lm_wJ); (first | exact rfl | assumption); omega)
    | ((with_reducible apply lm_wB); (first | exact rfl | assumption); omega)
    | ((with_reducible apply lm_sAl); (first | exact rfl | assumption); omega)
    | ((with_reducible apply lm_iW); decide))
  refine lm_cV u86 ?_
  repeat (first
    | ((with_reducible apply lm_sI); exact rfl)
    | ((with_reducible apply lm_sR); exact rfl)
    | ((with_reducible apply lm_sS); exact rfl; exact rfl)
    | ((with_reducible apply lm_sL); exact rfl)
    | ((with_reducible apply lm_sP); exact rfl; exact rfl)
    | ((with_reducible apply lm_sPL); exact rfl; exact rfl)
    | ((with_reducible apply lm_sAA); exact rfl; exact rfl)
    | ((with_reducible apply lm_sA); (first | exact rfl | assumption); omega)
    | ((with_reducible apply lm_sJ); (first | exact rfl | assumption); omega)
    | ((with_reducible apply lm_sB); (first | exact rfl | assumption); omega)
    | ((with_reducible apply lm_wA); (first | exact rfl | assumption); omega)
    | ((with_reducible apply lm_wJ); (first | exact rfl | assumption); omega)
    | ((with_reducible apply lm_wB); (first | exact rfl | assumption); omega)
    | ((with_reducible apply lm_sAl); (first | exact rfl | assumption); omega)
    | ((with_reducible apply lm_iW); decide))
  refine lm_cI u96 ?_
  exact KK
theorem lm_u32e (hs : s ≤ 2) (hk : kk ≤ 13) (hx : m 214 4 = Int32.ofNat xl) (hx6 : xl ≤ 65536) (hn : ¬ (kk = 0 ∨ xl ≤ 255)) : lm_cal sc (d + 8) 32 [.ref 203, .int (Int32.ofNat s), .int (ln_kd kk)] (lm_w m n x) = some (.ok (some (.int 0)), lm_w (lm_u (lm_dm2 (lm_u m 203 4 0) s) 203 4 2) n x) := by
  refine lm_l32j hs hk hx hx6 _ ?_
  rw [decide_eq_false hn]
  repeat (first
    | ((with_reducible apply lm_sI); exact rfl)
    | ((with_reducible apply lm_sR); exact rfl)
    | ((with_reducible apply lm_sS); exact rfl; exact rfl)
    | ((with_reducible apply lm_sL); exact rfl)
    | ((with_reducible apply lm_sP); exact rfl; exact rfl)
    | ((with_reducible apply lm_sPL); exact rfl; exact rfl)
    | ((with_reducible apply lm_sAA); exact rfl; exact rfl)
    | ((with_reducible apply lm_sA); (first | exact rfl | assumption); omega)
    | ((with_reducible apply lm_sJ); (first | exact rfl | assumption); omega)
    | ((with_reducible apply lm_sB); (first | exact rfl | assumption); omega)
    | ((with_reducible apply lm_wA); (first | exact rfl | assumption); omega)
    | ((with_reducible apply lm_wJ); (first | exact rfl | assumption); omega)
    | ((with_reducible apply lm_wB); (first | exact rfl | assumption); omega)
    | ((with_reducible apply lm_sAl); (first | exact rfl | assumption); omega)
    | ((with_reducible apply lm_iW); decide))
  refine lm_cI (lm_u49 (d := d + 6) false) ?_
  exact lm_iT (show (0 : Int32) = 0 by decide) (lm_iW (by decide) rfl)
/-- up to the public's size -/
theorem lm_l32k {b : Int32} (hs : s ≤ 2) (hk : kk ≤ 13) (hx : m 214 4 = Int32.ofNat xl) (hx6 : xl ≤ 65536) (hy : kk = 0 ∨ xl ≤ 255) (h2 : m 214 1 = Int32.ofNat sl) (hsl : sl ≤ 65536) (hb : b = if sl = 32 + 320 * lm_dk s then Int32.ofInt 1 else Int32.ofInt 0) : ∀ RR, lm_rn sc (d + 7) lm_m32.2.2.2.2.1 (lm_reg lm_m32.2.2.2.2.2) (78, [(0, .ref 203), (2, .int (ln_kd kk))], [.int b, .ref 203]) (lm_w (lm_u (lm_dm2 (lm_u m 203 4 0) s) 203 4 0) n x) = some RR → lm_cal sc (d + 8) 32 [.ref 203, .int (Int32.ofNat s), .int (ln_kd kk)] (lm_w m n x) = some RR := by
  intro RR KK
  have hkl := lm_dkl hs
  refine lm_l32j hs hk hx hx6 _ ?_
  have D1 := lm_dm2_RD (C := lm_cx (lm_u m 203 4 0) n) (s := s) (m := lm_u m 203 4 0) (n := n) rfl
  have a1 : lm_dm2 (lm_u m 203 4 0) s 214 = m 214 := by rw [lm_dm2_row (by decide) (by decide), lm_u_row (by decide)]
  generalize lm_dm2 (lm_u m 203 4 0) s = M at *
  rw [decide_eq_true hy]
  repeat (first
    | ((with_reducible apply lm_sI); exact rfl)
    | ((with_reducible apply lm_sR); exact rfl)
    | ((with_reducible apply lm_sS); exact rfl; exact rfl)
    | ((with_reducible apply lm_sL); exact rfl)
    | ((with_reducible apply lm_sP); exact rfl; exact rfl)
    | ((with_reducible apply lm_sPL); exact rfl; exact rfl)
    | ((with_reducible apply lm_sAA); exact rfl; exact rfl)
    | ((with_reducible apply lm_sA); (first | exact rfl | assumption); omega)
    | ((with_reducible apply lm_sJ); (first | exact rfl | assumption); omega)
    | ((with_reducible apply lm_sB); (first | exact rfl | assumption); omega)
    | ((with_reducible apply lm_wA); (first | exact rfl | assumption); omega)
    | ((with_reducible apply lm_wJ); (first | exact rfl | assumption); omega)
    | ((with_reducible apply lm_wB); (first | exact rfl | assumption); omega)
    | ((with_reducible apply lm_sAl); (first | exact rfl | assumption); omega)
    | ((with_reducible apply lm_iW); decide))
  refine lm_cI (lm_u49 (d := d + 6) true) ?_
  refine lm_iF (show ¬ (1 : Int32) = 0 by decide) ?_
  rw [show lm_u M 203 4 (cond true 0 (Int32.ofInt 2)) = lm_u M 203 4 0 from rfl, lm_K1]
  repeat (first
    | ((with_reducible apply lm_sI); exact rfl)
    | ((with_reducible apply lm_sR); exact rfl)
    | ((with_reducible apply lm_sS); exact rfl; exact rfl)
    | ((with_reducible apply lm_sL); exact rfl)
    | ((with_reducible apply lm_sP); exact rfl; exact rfl)
    | ((with_reducible apply lm_sPL); exact rfl; exact rfl)
    | ((with_reducible apply lm_sAA); exact rfl; exact rfl)
    | ((with_reducible apply lm_sA); (first | exact rfl | assumption); omega)
    | ((with_reducible apply lm_sJ); (first | exact rfl | assumption); omega)
    | ((with_reducible apply lm_sB); (first | exact rfl | assumption); omega)
    | ((with_reducible apply lm_wA); (first | exact rfl | assumption); omega)
    | ((with_reducible apply lm_wJ); (first | exact rfl | assumption); omega)
    | ((with_reducible apply lm_wB); (first | exact rfl | assumption); omega)
    | ((with_reducible apply lm_sAl); (first | exact rfl | assumption); omega)
    | ((with_reducible apply lm_iW); decide))
  simp only [Nat.reduceDiv, Nat.reduceMod]
  rw [lm_u_row (by decide), a1, h2, lm_u_ne (by decide), D1.2.1, lm_K32, show Int32.ofInt 320 = Int32.ofNat 320 from rfl, lm_om, lm_oo]
  rw [lm_K1] at hb
  by_cases c : sl = 32 + 320 * lm_dk s
  · refine lm_neF (by omega) (by omega) (fun g => g c) ?_
    rw [hb, if_pos c] at KK
    exact KK
  · refine lm_neT (by omega) (by omega) c ?_
    rw [hb, if_neg c] at KK
    exact KK
theorem lm_u32g (hs : s ≤ 2) (hk : kk ≤ 13) (hx : m 214 4 = Int32.ofNat xl) (hx6 : xl ≤ 65536) (hy : kk = 0 ∨ xl ≤ 255) (h2 : m 214 1 = Int32.ofNat sl) (hsl : sl ≤ 65536) (hn : sl ≠ 32 + 320 * lm_dk s) : lm_cal sc (d + 8) 32 [.ref 203, .int (Int32.ofNat s), .int (ln_kd kk)] (lm_w m n x) = some (.ok (some (.int 0)), lm_w (lm_u (lm_dm2 (lm_u m 203 4 0) s) 203 4 3) n x) := by
  refine lm_l32k (b := Int32.ofInt 0) hs hk hx hx6 hy h2 hsl (by rw [if_neg hn]) _ (lm_e32_78 ?_)
  unfold lm_q32_78
  repeat (first
    | ((with_reducible apply lm_sI); exact rfl)
    | ((with_reducible apply lm_sR); exact rfl)
    | ((with_reducible apply lm_sS); exact rfl; exact rfl)
    | ((with_reducible apply lm_sL); exact rfl)
    | ((with_reducible apply lm_sP); exact rfl; exact rfl)
    | ((with_reducible apply lm_sPL); exact rfl; exact rfl)
    | ((with_reducible apply lm_sAA); exact rfl; exact rfl)
    | ((with_reducible apply lm_sA); (first | exact rfl | assumption); omega)
    | ((with_reducible apply lm_sJ); (first | exact rfl | assumption); omega)
    | ((with_reducible apply lm_sB); (first | exact rfl | assumption); omega)
    | ((with_reducible apply lm_wA); (first | exact rfl | assumption); omega)
    | ((with_reducible apply lm_wJ); (first | exact rfl | assumption); omega)
    | ((with_reducible apply lm_wB); (first | exact rfl | assumption); omega)
    | ((with_reducible apply lm_sAl); (first | exact rfl | assumption); omega)
    | ((with_reducible apply lm_iW); decide))
  refine lm_cI (lm_u49 (d := d + 6) false) ?_
  rw [lm_uu]
  exact lm_iF (show ¬ ¬ (0 : Int32) = 0 by decide) (lm_iW (by decide) rfl)
/-- what a verification leaves alone -/
def lm_fV (m : lm_MI) (n : lm_ML) (m' : lm_MI) (n' : lm_ML) : Prop := (∀ r, r ≠ 203 → r ≠ 212 → r ≠ 214 → r ≠ 227 → r ≠ 229 → (r < 268 ∨ 332 < r) → m' r = m r) ∧ (∀ j, j ≠ 4 → j ≠ 18 → j ≠ 19 → j ≠ 20 → j ≠ 24 → j ≠ 32 → (j < 42 ∨ 49 < j) → m' 203 j = m 203 j) ∧ (∀ q, q ≠ 203 → q ≠ 223 → q ≠ 224 → q ≠ 225 → q ≠ 226 → q ≠ 230 → n' q = n q)
set_option maxRecDepth 100000 in
theorem lm_u32h (hC : lm_cx m n = C) (hs : s ≤ 2) (hk : kk ≤ 13) (hx : m 214 4 = Int32.ofNat xl) (hx6 : xl ≤ 65536) (hy : kk = 0 ∨ xl ≤ 255) (h2 : m 214 1 = Int32.ofNat (32 + 320 * lm_dk s)) (hm : m 214 3 = Int32.ofNat ml) (hml : ml ≤ 65536) (hp : m 214 5 = Int32.ofNat pl) (hpl : pl ≤ 65536) (hK : ∀ u, u < 32 + 320 * lm_dk s → lm_b8 (m 207 u) = lm_b8 (K u)) (hQ : ∀ u, u < pl → lm_b8 (m 211 u) = lm_b8 (Q u)) (hX : ∀ t, t < xl → lm_b8 (m 210 t) = lm_b8 (X t)) (hM : ∀ t, t < ml → lm_b8 (m 209 t) = lm_b8 (Mg t)) : ∃ m' n', lm_fV m n m' n' ∧ ((¬ lm_vt Q s pl ∧ lm_cal sc (d + 8) 32 [.ref 203, .int (Int32.ofNat s), .int (ln_kd kk)] (lm_w m n x) = some (.ok (some (.int (lm_z false))), lm_w m' n' x) ∧ m' 203 4 = 0 ∧ m' 212 = m 212 ∧ m' 214 = m 214) ∨ (lm_vt Q s pl ∧ ln_sA C K s ∧ (lm_vB C Q s).1 = 256 ∧ lm_cal sc (d + 8) 32 [.ref 203, .int (Int32.ofNat s), .int (ln_kd kk)] (lm_w m n x) = some (.ok (some (.int (lm_z (lm_ev (fun t => lm_b8 (lm_vC C K Q (lm_vM C K s kk X xl Mg ml) s t)) (fun t => lm_b8 (Q t)) (lm_dsz s) 0)))), lm_w m' n' x) ∧ m' 203 4 = 0 ∧ (∀ j, j ≠ 6 → m' 214 j = m 214 j) ∧ m' 214 6 = Int32.ofNat (lm_dsz s) ∧ ∀ t, t < lm_dsz s → lm_b8 (m' 212 t) = lm_b8 (lm_vC C K Q (lm_vM C K s kk X xl Mg ml) s t)) ∨ (lm_vt Q s pl ∧ ¬ (ln_sA C K s ∧ (lm_vB C Q s).1 = 256) ∧ lm_cal sc (d + 8) 32 [.ref 203, .int (Int32.ofNat s), .int (ln_kd kk)] (lm_w m n x) = some (.ok (some (.int (lm_z false))), lm_w m' n' x) ∧ m' 203 4 = 4 ∧ m' 212 = m 212 ∧ m' 214 = m 214)) := by
  have hkl := lm_dkl hs
  have hpar := lm_dpar s hs
  have hps := lm_dps_e s
  have hPb := lm_vPb hs
  have C0 : lm_cx (lm_u m 203 4 0) n = C := by
    rw [← hC]
    unfold lm_cx lm_tb
    rw [lm_u_row (by decide)]
  have D0 := lm_dm2_RD (s := s) C0
  have E0 : lm_RE s (lm_dm2 (lm_u m 203 4 0) s) := lm_dm2_RE
  have a0 : ∀ r, r ≠ 203 → r ≠ 268 → lm_dm2 (lm_u m 203 4 0) s r = m r := fun r r1 r2 => by rw [lm_dm2_row r1 r2, lm_u_row r1]
  have b0 : ∀ j, j ≠ 4 → j ≠ 32 → (j < 42 ∨ 49 < j) → lm_dm2 (lm_u m 203 4 0) s 203 j = m 203 j := fun j j1 j2 j3 => by rw [lm_dm2_f j2 j3, lm_u_ne (fun g => j1 g.2)]
  have l32k := lm_l32k (sc := sc) (d := d) (n := n) (x := x) (b := Int32.ofInt 1) hs hk hx hx6 hy h2 (by omega) (by rw [if_pos rfl])
  generalize lm_dm2 (lm_u m 203 4 0) s = M0 at D0 E0 a0 b0 l32k
  generalize eM1 : lm_u M0 203 4 0 = M1 at l32k
  have r1 : ∀ r, r ≠ 203 → M1 r = M0 r := fun r hr => by rw [← eM1, lm_u_row hr]
  have f1 : ln_fD M0 n M1 n := by rw [← eM1]; exact .u4
  have D1 : lm_RD C s M1 n := D0.keepD f1 (r1 221 (by decide)) (r1 268 (by decide))
  have E1 : lm_RE s M1 := E0.of fun j a b => f1.1 j (by omega) (by omega) (by omega) (by omega) (by omega)
  have e1 : ∀ r, r ≠ 203 → r ≠ 268 → M1 r = m r := fun r q1 q2 => by rw [r1 r q1, a0 r q1 q2]
  have z1 : M1 203 4 = 0 := by rw [← eM1, lm_u_eq]
  have fV : ∀ m' n', (∀ r, r ≠ 203 → r ≠ 212 → r ≠ 214 → r ≠ 227 → r ≠ 229 → (r < 268 ∨ 332 < r) → m' r = M1 r) → ln_fD M1 n m' n' → lm_fV m n m' n' := fun m' n' p q => ⟨fun r s1 s2 s3 s4 s5 s6 => by rw [p r s1 s2 s3 s4 s5 s6, e1 r s1 (by omega)], fun j j1 j2 j3 j4 j5 j6 j7 => by rw [(f1.tr q).1 j j1 j2 j3 j4 j5, b0 j j1 j6 j7], (f1.tr q).2⟩
  have run : ∀ RR, lm_if .ne (Int32.ofNat pl) (Int32.ofNat (lm_dps s)) (lm_when (Int32.ofNat 0 = 0 ∨ Int32.ofNat 0 = 1) inferInstance (lm_ret (some (.int (Int32.ofNat 0))))) (lm_bind (lm_gR 4406 203) fun v10 => lm_bind (lm_aaR sc v10 (Int32.ofNat 5)) fun v11 => lm_bind (lm_sel [(11, 101)] (some (.ref 203))) fun y12 => lm_bind (lm_asI (lm_cal sc (d + 7) y12 [.ref 203, .ref v11, .int (Int32.ofNat (lm_dsz s + 32 * lm_dw s * lm_dl s))])) fun v13 => lm_if .ne v13 0 (lm_bind (lm_putf 4496 203 (.int (Int32.ofNat 0))) fun _ => lm_rn sc (d + 7) lm_m32.2.2.2.2.1 (lm_reg lm_m32.2.2.2.2.2) (149, [(0, .ref 203), (2, .int (ln_kd kk)), (4, .int (Int32.ofNat 0))], [])) (lm_when (Int32.ofNat 0 = 0 ∨ Int32.ofNat 0 = 1) inferInstance (lm_ret (some (.int (Int32.ofNat 0)))))) (lm_w M1 n x) = some RR → lm_cal sc (d + 8) 32 [.ref 203, .int (Int32.ofNat s), .int (ln_kd kk)] (lm_w m n x) = some RR := by
    intro RR KK
    clear hK hQ hX hM fV
    refine l32k RR (lm_e32_78 ?_)
    unfold lm_q32_78
    repeat (first
    | ((with_reducible apply lm_sI); exact rfl)
    | ((with_reducible apply lm_sR); exact rfl)
    | ((with_reducible apply lm_sS); exact rfl; exact rfl)
    | ((with_reducible apply lm_sL); exact rfl)
    | ((with_reducible apply lm_sP); exact rfl; exact rfl)
    | ((with_reducible apply lm_sPL); exact rfl; exact rfl)
    | ((with_reducible apply lm_sAA); exact rfl; exact rfl)
    | ((with_reducible apply lm_sA); (first | exact rfl | assumption); omega)
    | ((with_reducible apply lm_sJ); (first | exact rfl | assumption); omega)
    | ((with_reducible apply lm_sB); (first | exact rfl | assumption); omega)
    | ((with_reducible apply lm_wA); (first | exact rfl | assumption); omega)
    | ((with_reducible apply lm_wJ); (first | exact rfl | assumption); omega)
    | ((with_reducible apply lm_wB); (first | exact rfl | assumption); omega)
    | ((with_reducible apply lm_sAl); (first | exact rfl | assumption); omega)
    | ((with_reducible apply lm_iW); decide))
    refine lm_cI (lm_u49 (d := d + 6) true) ?_
    refine lm_iT (show ¬ (1 : Int32) = 0 by decide) ?_
    rw [show lm_u M1 203 4 (cond true 0 (Int32.ofInt 3)) = M1 by rw [← eM1]; exact lm_uu]
    rw [lm_K0, lm_K5]
    repeat (first
    | ((with_reducible apply lm_sI); exact rfl)
    | ((with_reducible apply lm_sR); exact rfl)
    | ((with_reducible apply lm_sS); exact rfl; exact rfl)
    | ((with_reducible apply lm_sL); exact rfl)
    | ((with_reducible apply lm_sP); exact rfl; exact rfl)
    | ((with_reducible apply lm_sPL); exact rfl; exact rfl)
    | ((with_reducible apply lm_sAA); exact rfl; exact rfl)
    | ((with_reducible apply lm_sA); (first | exact rfl | assumption); omega)
    | ((with_reducible apply lm_sJ); (first | exact rfl | assumption); omega)
    | ((with_reducible apply lm_sB); (first | exact rfl | assumption); omega)
    | ((with_reducible apply lm_wA); (first | exact rfl | assumption); omega)
    | ((with_reducible apply lm_wJ); (first | exact rfl | assumption); omega)
    | ((with_reducible apply lm_wB); (first | exact rfl | assumption); omega)
    | ((with_reducible apply lm_sAl); (first | exact rfl | assumption); omega)
    | ((with_reducible apply lm_iW); decide))
    simp only [Nat.reduceDiv, Nat.reduceMod]
    rw [E1.2.2.2.2.1, E1.2.2.2.2.2, D1.2.2.1, E1.2.2.2.1, D1.2.1, e1 214 (by decide) (by decide), hp, lm_K32, lm_om, lm_om, lm_oo, Nat.mul_assoc 32, Nat.mul_comm (lm_dl s), ← Nat.mul_assoc, lm_oo, lm_oo, ← hps]
    exact KK
  by_cases cp : pl = lm_dps s
  · subst cp
    obtain ⟨m2, f2, u2⟩ := ln_u101 (sc := sc) (d := d + 6) (m := M1) (n := n) (x := x) (Q := Q) hs D1.2.1 E1.2.2.2.1 (fun u hu => by rw [e1 211 (by decide) (by decide)]; exact hQ u hu)
    rcases u2 with ⟨c2, o2, w2⟩ | ⟨c2, o2⟩
    · generalize eM3 : lm_u m2 203 24 (Int32.ofNat 0) = M3
      have r3 : ∀ r, r ≠ 203 → M3 r = m2 r := fun r hr => by rw [← eM3, lm_u_row hr]
      have o3 : ∀ j, j ≠ 24 → M3 203 j = M1 203 j := fun j hj => by rw [← eM3, lm_u_ne (fun g => hj g.2), f2 203 (by decide)]
      have z24 : M3 203 24 = Int32.ofNat 0 := by rw [← eM3, lm_u_eq]
      have d3 : ln_fD M1 n M3 n := ⟨fun j _ _ _ _ g => o3 j g, fun _ _ _ _ _ _ _ => rfl⟩
      have e3 : ∀ r, r ≠ 203 → (r < 268 ∨ 332 < r) → M3 r = m r := fun r q1 q2 => by rw [r3 r q1, f2 r (by omega), e1 r q1 (by omega)]
      have e3' : ∀ r, r ≠ 203 → (r < 319 ∨ 326 < r) → M3 r = M1 r := fun r q1 q2 => by rw [r3 r q1, f2 r q2]
      have D3 : lm_RD C s M3 n := D1.keepD d3 (e3' 221 (by decide) (by decide)) (e3' 268 (by decide) (by decide))
      have E3 : lm_RE s M3 := E1.of fun j a b => o3 j (by omega)
      have run2 : ∀ RR, lm_rn sc (d + 7) lm_m32.2.2.2.2.1 (lm_reg lm_m32.2.2.2.2.2) (149, [(0, .ref 203), (2, .int (ln_kd kk)), (4, .int (Int32.ofNat 0))], []) (lm_w M3 n x) = some RR → lm_cal sc (d + 8) 32 [.ref 203, .int (Int32.ofNat s), .int (ln_kd kk)] (lm_w m n x) = some RR := by
        intro RR KK
        clear w2 hK hQ hX hM fV
        refine run RR (lm_neF (by omega) (by omega) (fun g => g rfl) ?_)
        repeat (first
    | ((with_reducible apply lm_sI); exact rfl)
    | ((with_reducible apply lm_sR); exact rfl)
    | ((with_reducible apply lm_sS); exact rfl; exact rfl)
    | ((with_reducible apply lm_sL); exact rfl)
    | ((with_reducible apply lm_sP); exact rfl; exact rfl)
    | ((with_reducible apply lm_sPL); exact rfl; exact rfl)
    | ((with_reducible apply lm_sAA); exact rfl; exact rfl)
    | ((with_reducible apply lm_sA); (first | exact rfl | assumption); omega)
    | ((with_reducible apply lm_sJ); (first | exact rfl | assumption); omega)
    | ((with_reducible apply lm_sB); (first | exact rfl | assumption); omega)
    | ((with_reducible apply lm_wA); (first | exact rfl | assumption); omega)
    | ((with_reducible apply lm_wJ); (first | exact rfl | assumption); omega)
    | ((with_reducible apply lm_wB); (first | exact rfl | assumption); omega)
    | ((with_reducible apply lm_sAl); (first | exact rfl | assumption); omega)
    | ((with_reducible apply lm_iW); decide))
        refine lm_cI c2 ?_
        refine lm_iT (show ¬ (1 : Int32) = 0 by decide) ?_
        repeat (first
    | ((with_reducible apply lm_sI); exact rfl)
    | ((with_reducible apply lm_sR); exact rfl)
    | ((with_reducible apply lm_sS); exact rfl; exact rfl)
    | ((with_reducible apply lm_sL); exact rfl)
    | ((with_reducible apply lm_sP); exact rfl; exact rfl)
    | ((with_reducible apply lm_sPL); exact rfl; exact rfl)
    | ((with_reducible apply lm_sAA); exact rfl; exact rfl)
    | ((with_reducible apply lm_sA); (first | exact rfl | assumption); omega)
    | ((with_reducible apply lm_sJ); (first | exact rfl | assumption); omega)
    | ((with_reducible apply lm_sB); (first | exact rfl | assumption); omega)
    | ((with_reducible apply lm_wA); (first | exact rfl | assumption); omega)
    | ((with_reducible apply lm_wJ); (first | exact rfl | assumption); omega)
    | ((with_reducible apply lm_wB); (first | exact rfl | assumption); omega)
    | ((with_reducible apply lm_sAl); (first | exact rfl | assumption); omega)
    | ((with_reducible apply lm_iW); decide))
        rw [eM3]
        exact KK
      rcases lm_l32a (sc := sc) (C := C) (d := d) (m := M3) (n := n) (x := x) (s := s) (Q := Q) (w := ln_kd kk) hs D3 E3 z24 (fun u hu => by rw [e3 211 (by decide) (by decide)]; exact hQ u hu) with ⟨m4, ⟨a1, a2, a3, a4⟩, k4⟩ | ⟨m4, ⟨a1, a2, a3⟩, k4⟩
      · have vt : lm_vt Q s (lm_dps s) := ⟨rfl, o2, a4⟩
        have d4 : ln_fD M1 n m4 n := d3.tr ⟨fun j _ _ _ _ g => a2 j g, fun _ _ _ _ _ _ _ => rfl⟩
        have e4 : ∀ r, r ≠ 203 → (r < 268 ∨ 332 < r) → m4 r = m r := fun r q1 q2 => by rw [a1 r q1 (by omega), e3 r q1 q2]
        have e4' : ∀ r, r ≠ 203 → (r < 270 ∨ 276 < r) → (r < 319 ∨ 326 < r) → m4 r = M1 r := fun r q1 q2 q3 => by rw [a1 r q1 q2, e3' r q1 q3]
        have D4 : lm_RD C s m4 n := D1.keepD d4 (e4' 221 (by decide) (by decide) (by decide)) (e4' 268 (by decide) (by decide) (by decide))
        have E4 : lm_RE s m4 := E1.of fun j a b => d4.1 j (by omega) (by omega) (by omega) (by omega) (by omega)
        rcases lm_l32h (sc := sc) (C := C) (d := d) (m := m4) (n := n) (x := x) (s := s) (kk := kk) (xl := xl) (ml := ml) (K := K) (Q := Q) (X := X) (Mg := Mg) hs D4 E4 (by rw [e4 214 (by decide) (by decide)]; exact h2) (fun u hu => by rw [e4 207 (by decide) (by decide)]; exact hK u hu) (fun u hu => by rw [e4 211 (by decide) (by decide)]; exact hQ u hu) hk hy (by rw [e4 214 (by decide) (by decide)]; exact hx) (by rw [e4 214 (by decide) (by decide)]; exact hm) hml (fun t ht => by rw [e4 210 (by decide) (by decide)]; exact hX t ht) (fun t ht => by rw [e4 209 (by decide) (by decide)]; exact hM t ht) with ⟨cb, m5, n5, ⟨b1, b2, b3, b4, b5⟩, k5⟩ | ⟨cb, m5, n5, ⟨b1, b2, b3⟩, k5⟩
        · have d5 := d4.tr b2
          have e5 : ∀ r, r ≠ 203 → r ≠ 227 → r ≠ 229 → (r < 268 ∨ 332 < r) → m5 r = m r := fun r q1 q2 q3 q4 => by rw [b1 r q1 q2 q3 (by omega) (by omega) (by omega) (by omega), e4 r q1 q4]
          have e268 : m5 268 = M1 268 := by rw [b1 268 (by decide) (by decide) (by decide) (by decide) (by decide) (by decide) (by decide), e4' 268 (by decide) (by decide) (by decide)]
          have e221 : m5 221 = M1 221 := by rw [b1 221 (by decide) (by decide) (by decide) (by decide) (by decide) (by decide) (by decide), e4' 221 (by decide) (by decide) (by decide)]
          have D5 : lm_RD C s m5 n5 := D1.keepD d5 e221 e268
          obtain ⟨m6, n6, ⟨g1, g2, g3⟩, k6⟩ := lm_l32b (sc := sc) (C := C) (d := d) (m := m5) (n := n5) (x := x) (s := s) (Z := lm_vz Q s) hs D5 (fun t ht c hc => ⟨by rw [b1 _ (by omega) (by omega) (by omega) (by omega) (by omega) (by omega) (by omega)]; exact a3 t ht c hc, lm_vz_b hs⟩)
          generalize eM7 : lm_u m6 203 24 (Int32.ofNat 0) = M7
          have r7 : ∀ r, r ≠ 203 → M7 r = m6 r := fun r hr => by rw [← eM7, lm_u_row hr]
          have o7 : ∀ j, j ≠ 24 → M7 203 j = m5 203 j := fun j hj => by rw [← eM7, lm_u_ne (fun g => hj g.2), g1 203 (by decide)]
          have d7 : ln_fD M1 n M7 n6 := d5.tr ⟨fun j _ _ _ _ g => o7 j g, fun q _ _ _ _ _ g => g2 q g⟩
          have e7 : ∀ r, r ≠ 203 → r ≠ 227 → r ≠ 229 → (r < 268 ∨ 332 < r) → M7 r = m r := fun r q1 q2 q3 q4 => by rw [r7 r q1, g1 r (by omega), e5 r q1 q2 q3 q4]
          have D7 : lm_RD C s M7 n6 := D1.keepD d7 (by rw [r7 221 (by decide), g1 221 (by decide), e221]) (by rw [r7 268 (by decide), g1 268 (by decide), e268])
          have E7 : lm_RE s M7 := E1.of fun j a b => d7.1 j (by omega) (by omega) (by omega) (by omega) (by omega)
          have run3 : ∀ RR, lm_rn sc (d + 7) lm_m32.2.2.2.2.1 (lm_reg lm_m32.2.2.2.2.2) (406, [(0, .ref 203), (4, .int (Int32.ofNat 0))], []) (lm_w M7 n6 x) = some RR → lm_cal sc (d + 8) 32 [.ref 203, .int (Int32.ofNat s), .int (ln_kd kk)] (lm_w m n x) = some RR := by
            intro RR KK
            refine run2 RR (k4 RR (k5 RR (k6 RR (lm_e32_362 ?_))))
            clear w2 a3 b4 b5 g3 hK hQ hX hM fV
            unfold lm_q32_362
            repeat (first
    | ((with_reducible apply lm_sI); exact rfl)
    | ((with_reducible apply lm_sR); exact rfl)
    | ((with_reducible apply lm_sS); exact rfl; exact rfl)
    | ((with_reducible apply lm_sL); exact rfl)
    | ((with_reducible apply lm_sP); exact rfl; exact rfl)
    | ((with_reducible apply lm_sPL); exact rfl; exact rfl)
    | ((with_reducible apply lm_sAA); exact rfl; exact rfl)
    | ((with_reducible apply lm_sA); (first | exact rfl | assumption); omega)
    | ((with_reducible apply lm_sJ); (first | exact rfl | assumption); omega)
    | ((with_reducible apply lm_sB); (first | exact rfl | assumption); omega)
    | ((with_reducible apply lm_wA); (first | exact rfl | assumption); omega)
    | ((with_reducible apply lm_wJ); (first | exact rfl | assumption); omega)
    | ((with_reducible apply lm_wB); (first | exact rfl | assumption); omega)
    | ((with_reducible apply lm_sAl); (first | exact rfl | assumption); omega)
    | ((with_reducible apply lm_iW); decide))
            simp only [Nat.reduceDiv, Nat.reduceMod]
            rw [g1 203 (by decide), D5.2.2.1]
            refine lm_geT (by omega) (by omega) (by omega) ?_
            rw [lm_K0]
            repeat (first
    | ((with_reducible apply lm_sI); exact rfl)
    | ((with_reducible apply lm_sR); exact rfl)
    | ((with_reducible apply lm_sS); exact rfl; exact rfl)
    | ((with_reducible apply lm_sL); exact rfl)
    | ((with_reducible apply lm_sP); exact rfl; exact rfl)
    | ((with_reducible apply lm_sPL); exact rfl; exact rfl)
    | ((with_reducible apply lm_sAA); exact rfl; exact rfl)
    | ((with_reducible apply lm_sA); (first | exact rfl | assumption); omega)
    | ((with_reducible apply lm_sJ); (first | exact rfl | assumption); omega)
    | ((with_reducible apply lm_sB); (first | exact rfl | assumption); omega)
    | ((with_reducible apply lm_wA); (first | exact rfl | assumption); omega)
    | ((with_reducible apply lm_wJ); (first | exact rfl | assumption); omega)
    | ((with_reducible apply lm_wB); (first | exact rfl | assumption); omega)
    | ((with_reducible apply lm_sAl); (first | exact rfl | assumption); omega)
    | ((with_reducible apply lm_iW); decide))
            rw [eM7]
            exact KK
          rcases lm_l32g (sc := sc) (C := C) (d := d) (m := M7) (n := n6) (x := x) (s := s) (K := K) (Q := Q) hs D7 E7 (by rw [o7 4 (by decide)]; exact b3) (by rw [← eM7, lm_u_eq]) (fun u hu => by rw [e7 207 (by decide) (by decide) (by decide) (by decide)]; exact hK u hu) (fun t ht c hc => by rw [r7 _ (by omega)]; exact g3 t ht c hc) (fun c hc => by rw [r7 316 (by decide), g1 316 (by decide)]; exact b5 c hc) (fun i hi c hc => by rw [r7 _ (by omega), g1 _ (by omega), b1 _ (by omega) (by omega) (by omega) (by omega) (by omega) (by omega) (by omega), a1 _ (by omega) (by omega), r3 _ (by omega)]; exact w2 i hi c hc) with ⟨m8, n8, ⟨h1, h2', h3, h24, h4, h5⟩, k8⟩ | ⟨R, ⟨m8, n8, eR, h1, h2', h3, h4⟩, k8⟩
          · have d8 := d7.tr h2'
            have e8 : ∀ r, r ≠ 203 → r ≠ 227 → r ≠ 229 → (r < 268 ∨ 332 < r) → m8 r = m r := fun r q1 q2 q3 q4 => by rw [h1 r q1 q2 (by omega) (by omega) (by omega), e7 r q1 q2 q3 q4]
            have D8 : lm_RD C s m8 n8 := D7.keepD h2' (h1 221 (by decide) (by decide) (by decide) (by decide) (by decide)) (h1 268 (by decide) (by decide) (by decide) (by decide) (by decide))
            have E8 : lm_RE s m8 := E7.of fun j a b => h2'.1 j (by omega) (by omega) (by omega) (by omega) (by omega)
            obtain ⟨m9, n9, c9, i1, i2, i3, i4, i5⟩ := lm_l32i (sc := sc) (C := C) (d := d) (m := m8) (n := n8) (x := x) (s := s) (K := K) (Q := Q) (V := lm_vM C K s kk X xl Mg ml) hs D8 E8 h5 (fun i hi => by rw [h1 330 (by decide) (by decide) (by decide) (by decide) (by decide), r7 330 (by decide), g1 330 (by decide), b4 i hi]) (fun u hu => by rw [e8 211 (by decide) (by decide) (by decide) (by decide)]; exact hQ u hu)
            refine ⟨m9, n9, fV m9 n9 (fun r s1 s2 s3 s4 s5 s6 => by rw [i1 r s1 s2 s3 s4 (by omega) (by omega), e8 r s1 s4 s5 s6, e1 r s1 (by omega)]) (d8.tr i2.D), Or.inr (Or.inl ⟨vt, fun i t hi ht => h4 i hi t ht, cb, run3 _ (k8 _ c9), by rw [i2.1 4 (by decide) (by decide) (by decide) (by decide)]; exact h3, fun j hj => by rw [i3 j hj, e8 214 (by decide) (by decide) (by decide) (by decide)], i4, i5⟩)⟩
          · rw [eR] at k8
            have e8 : ∀ r, r ≠ 203 → r ≠ 227 → r ≠ 229 → (r < 268 ∨ 332 < r) → m8 r = m r := fun r q1 q2 q3 q4 => by rw [h1 r q1 q2 (by omega) (by omega) (by omega), e7 r q1 q2 q3 q4]
            exact ⟨m8, n8, fV m8 n8 (fun r s1 _ _ s4 s5 s6 => by rw [e8 r s1 s4 s5 s6, e1 r s1 (by omega)]) (d7.tr h2'), Or.inr (Or.inr ⟨vt, fun g => h4 g.1, run3 _ k8, h3, e8 212 (by decide) (by decide) (by decide) (by decide), e8 214 (by decide) (by decide) (by decide) (by decide)⟩)⟩
        · have e5 : ∀ r, r ≠ 203 → r ≠ 227 → r ≠ 229 → (r < 268 ∨ 332 < r) → m5 r = m r := fun r q1 q2 q3 q4 => by rw [b1 r q1 q2 q3 (by omega) (by omega) (by omega) (by omega), e4 r q1 q4]
          exact ⟨m5, n5, fV m5 n5 (fun r s1 _ _ s4 s5 s6 => by rw [e5 r s1 s4 s5 s6, e1 r s1 (by omega)]) (d4.tr b2), Or.inr (Or.inr ⟨vt, fun g => cb g.2, run2 _ (k4 _ k5), b3, e5 212 (by decide) (by decide) (by decide) (by decide), e5 214 (by decide) (by decide) (by decide) (by decide)⟩)⟩
      · have e4 : ∀ r, r ≠ 203 → (r < 268 ∨ 332 < r) → m4 r = m r := fun r q1 q2 => by rw [a1 r q1 (by omega), e3 r q1 q2]
        refine ⟨m4, n, fV m4 n (fun r s1 _ _ _ _ s6 => by rw [e4 r s1 s6, e1 r s1 (by omega)]) (d3.tr ⟨fun j _ _ _ _ g => a2 j g, fun _ _ _ _ _ _ _ => rfl⟩), Or.inl ⟨fun g => a3 g.2.2, run2 _ k4, by rw [a2 4 (by decide), o3 4 (by decide)]; exact z1, e4 212 (by decide) (by decide), e4 214 (by decide) (by decide)⟩⟩
    · refine ⟨m2, n, fV m2 n (fun r s1 _ _ _ _ s6 => by rw [f2 r (by omega)]) ⟨fun j _ _ _ _ _ => by rw [f2 203 (by decide)], fun _ _ _ _ _ _ _ => rfl⟩, Or.inl ⟨fun g => o2 g.2.1, run _ (lm_neF (by omega) (by omega) (fun g => g rfl) ?_), by rw [f2 203 (by decide)]; exact z1, by rw [f2 212 (by decide), e1 212 (by decide) (by decide)], by rw [f2 214 (by decide), e1 214 (by decide) (by decide)]⟩⟩
      repeat (first
    | ((with_reducible apply lm_sI); exact rfl)
    | ((with_reducible apply lm_sR); exact rfl)
    | ((with_reducible apply lm_sS); exact rfl; exact rfl)
    | ((with_reducible apply lm_sL); exact rfl)
    | ((with_reducible apply lm_sP); exact rfl; exact rfl)
    | ((with_reducible apply lm_sPL); exact rfl; exact rfl)
    | ((with_reducible apply lm_sAA); exact rfl; exact rfl)
    | ((with_reducible apply lm_sA); (first | exact rfl | assumption); omega)
    | ((with_reducible apply lm_sJ); (first | exact rfl | assumption); omega)
    | ((with_reducible apply lm_sB); (first | exact rfl | assumption); omega)
    | ((with_reducible apply lm_wA); (first | exact rfl | assumption); omega)
    | ((with_reducible apply lm_wJ); (first | exact rfl | assumption); omega)
    | ((with_reducible apply lm_wB); (first | exact rfl | assumption); omega)
    | ((with_reducible apply lm_sAl); (first | exact rfl | assumption); omega)
    | ((with_reducible apply lm_iW); decide))
      refine lm_cI c2 ?_
      exact lm_iF (show ¬ ¬ (0 : Int32) = 0 by decide) (lm_iW (by decide) rfl)
  · refine ⟨M1, n, fV M1 n (fun _ _ _ _ _ _ _ => rfl) .rf, Or.inl ⟨fun g => cp g.1, run _ (lm_neT (by omega) (by omega) cp (lm_iW (by decide) rfl)), z1, e1 212 (by decide) (by decide), e1 214 (by decide) (by decide)⟩⟩
end LMRF
