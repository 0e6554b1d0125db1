/-! ===== slhKeys of the reference; one call of both ===== -/
section LMTG
variable {sc : lm_H} {xs : List Int32} {C : lm_CX} {d s l : Nat} {m m' : lm_MI} {n n' : lm_ML} {x : lm_H × Nat × Nat} {v : Int32}
theorem lm_l34 (hs : s ≤ 11) (hl : m 214 0 = Int32.ofNat l) (hl2 : l ≤ 65536) : ∃ m1, lm_RF m1 s ∧ (∀ j, j ≠ 4 → j < 67 → m1 203 j = m 203 j) ∧ (∀ q, q ≠ 203 → q ≠ 333 → m1 q = m q) ∧ ∀ R, lm_rn sc (d + 1) lm_m34.2.2.2.2.1 (lm_reg lm_m34.2.2.2.2.2) (43, [(0, .ref 203)], [.int (lm_z (decide (l = 3 * lm_sn s))), .ref 203]) (lm_w m1 n x) = some R → lm_cal sc (d + 2) 34 [.ref 203, .int (Int32.ofNat s)] (lm_w m n x) = some R := by
  obtain ⟨m1, c1, F1, z1, f1, r1⟩ := lm_u107x (sc := sc) (d := d) (m := lm_u m 203 4 0) (n := n) (x := x) hs
  have hb := lm_sn_b (s := s)
  refine ⟨m1, F1, fun j h1 h2 => by rw [f1 j h2, lm_u_ne (fun g => h1 g.2)], fun q h1 h2 => by rw [r1 q h1 h2, lm_u_row h1], fun R KK => ?_⟩
  refine lm_cal_of (Y := lm_m34) rfl rfl (lm_e34_0 ?_)
  unfold lm_q34_0
  refine lm_cI (lm_t52n (i := s) (d := d) (n := 11) hs (by omega)) ?_
  repeat (first
    | ((with_reducible apply lm_sI); exact rfl)
    | ((with_reducible apply lm_sR); exact rfl)
    | ((with_reducible apply lm_sS); exact rfl; exact rfl)
    | ((with_reducible apply lm_sL); exact rfl)
    | ((with_reducible apply lm_sP); exact rfl; exact rfl)
    | ((with_reducible apply lm_sPL); exact rfl; exact rfl)
    | ((with_reducible apply lm_sAA); exact rfl; first | exact rfl | exact lm_roO (by omega) | exact lm_roM (by omega))
    | ((with_reducible apply lm_sI); exact lm_fpL (by omega))
    | ((with_reducible apply lm_sR); exact lm_fpB (by omega))
    | ((with_reducible apply lm_sP); exact lm_fpL (by omega); exact rfl)
    | ((with_reducible apply lm_sS); exact lm_ocO (by omega); exact rfl)
    | ((with_reducible apply lm_sA); exact rfl; omega)
    | ((with_reducible apply lm_sJ); exact rfl; omega)
    | ((with_reducible apply lm_sB); (first | exact rfl | exact lm_arB (by omega) | exact lm_arM (by omega)); omega)
    | ((with_reducible apply lm_wA); exact rfl; omega)
    | ((with_reducible apply lm_wJ); exact rfl; omega)
    | ((with_reducible apply lm_wB); (first | exact rfl | exact lm_arB (by omega) | exact lm_arM (by omega)); omega)
    | ((with_reducible apply lm_sAl); (first | exact rfl | exact lm_arB (by omega) | exact lm_arM (by omega)); omega)
    | ((with_reducible apply lm_iW); decide))
  refine lm_cI (lm_u49 (d := d) true) ?_
  refine lm_iT (show ¬ (1 : Int32) = 0 by decide) ?_
  repeat (first
    | ((with_reducible apply lm_sI); exact rfl)
    | ((with_reducible apply lm_sR); exact rfl)
    | ((with_reducible apply lm_sS); exact rfl; exact rfl)
    | ((with_reducible apply lm_sL); exact rfl)
    | ((with_reducible apply lm_sP); exact rfl; exact rfl)
    | ((with_reducible apply lm_sPL); exact rfl; exact rfl)
    | ((with_reducible apply lm_sAA); exact rfl; first | exact rfl | exact lm_roO (by omega) | exact lm_roM (by omega))
    | ((with_reducible apply lm_sI); exact lm_fpL (by omega))
    | ((with_reducible apply lm_sR); exact lm_fpB (by omega))
    | ((with_reducible apply lm_sP); exact lm_fpL (by omega); exact rfl)
    | ((with_reducible apply lm_sS); exact lm_ocO (by omega); exact rfl)
    | ((with_reducible apply lm_sA); exact rfl; omega)
    | ((with_reducible apply lm_sJ); exact rfl; omega)
    | ((with_reducible apply lm_sB); (first | exact rfl | exact lm_arB (by omega) | exact lm_arM (by omega)); omega)
    | ((with_reducible apply lm_wA); exact rfl; omega)
    | ((with_reducible apply lm_wJ); exact rfl; omega)
    | ((with_reducible apply lm_wB); (first | exact rfl | exact lm_arB (by omega) | exact lm_arM (by omega)); omega)
    | ((with_reducible apply lm_sAl); (first | exact rfl | exact lm_arB (by omega) | exact lm_arM (by omega)); omega)
    | ((with_reducible apply lm_iW); decide))
  refine lm_cV c1 ?_
  rw [lm_K0, lm_K3]
  repeat (first
    | ((with_reducible apply lm_sI); exact rfl)
    | ((with_reducible apply lm_sR); exact rfl)
    | ((with_reducible apply lm_sS); exact rfl; exact rfl)
    | ((with_reducible apply lm_sL); exact rfl)
    | ((with_reducible apply lm_sP); exact rfl; exact rfl)
    | ((with_reducible apply lm_sPL); exact rfl; exact rfl)
    | ((with_reducible apply lm_sAA); exact rfl; first | exact rfl | exact lm_roO (by omega) | exact lm_roM (by omega))
    | ((with_reducible apply lm_sI); exact lm_fpL (by omega))
    | ((with_reducible apply lm_sR); exact lm_fpB (by omega))
    | ((with_reducible apply lm_sP); exact lm_fpL (by omega); exact rfl)
    | ((with_reducible apply lm_sS); exact lm_ocO (by omega); exact rfl)
    | ((with_reducible apply lm_sA); exact rfl; omega)
    | ((with_reducible apply lm_sJ); exact rfl; omega)
    | ((with_reducible apply lm_sB); (first | exact rfl | exact lm_arB (by omega) | exact lm_arM (by omega)); omega)
    | ((with_reducible apply lm_wA); exact rfl; omega)
    | ((with_reducible apply lm_wJ); exact rfl; omega)
    | ((with_reducible apply lm_wB); (first | exact rfl | exact lm_arB (by omega) | exact lm_arM (by omega)); omega)
    | ((with_reducible apply lm_sAl); (first | exact rfl | exact lm_arB (by omega) | exact lm_arM (by omega)); omega)
    | ((with_reducible apply lm_iW); decide))
  simp only [Nat.reduceDiv, Nat.reduceMod]
  rw [F1.1, lm_om, r1 214 (by decide) (by decide), lm_u_row (by decide), hl]
  by_cases c : l = 3 * lm_sn s
  · rw [decide_eq_true c] at KK
    exact lm_neF (by omega) (by omega) (fun g => g c) KK
  · rw [decide_eq_false c] at KK
    exact lm_neT (by omega) (by omega) c KK
theorem lm_u34d (hs : s ≤ 11) (hl : m 214 0 = Int32.ofNat l) (hl2 : l ≤ 65536) (hne : l ≠ 3 * lm_sn s) : ∃ m', lm_cal sc (d + 2) 34 [.ref 203, .int (Int32.ofNat s)] (lm_w m n x) = some (.ok (some (.int 0)), lm_w m' n x) ∧ (∀ q, q ≠ 203 → q ≠ 333 → m' q = m q) ∧ m' 203 4 = Int32.ofInt 2 ∧ m' 203 3 = m 203 3 := by
  obtain ⟨m1, F1, f1, r1, K1⟩ := lm_l34 (sc := sc) (d := d) (n := n) (x := x) hs hl hl2
  refine ⟨lm_u m1 203 4 (Int32.ofInt 2), K1 _ ?_, fun q h1 h2 => by rw [lm_u_row h1, r1 q h1 h2], lm_u_eq, by rw [lm_u_ne (by decide), f1 3 (by decide) (by decide)]⟩
  rw [decide_eq_false hne]
  refine lm_e34_43 ?_
  unfold lm_q34_43
  repeat (first
    | ((with_reducible apply lm_sI); exact rfl)
    | ((with_reducible apply lm_sR); exact rfl)
    | ((with_reducible apply lm_sS); exact rfl; exact rfl)
    | ((with_reducible apply lm_sL); exact rfl)
    | ((with_reducible apply lm_sP); exact rfl; exact rfl)
    | ((with_reducible apply lm_sPL); exact rfl; exact rfl)
    | ((with_reducible apply lm_sAA); exact rfl; first | exact rfl | exact lm_roO (by omega) | exact lm_roM (by omega))
    | ((with_reducible apply lm_sI); exact lm_fpL (by omega))
    | ((with_reducible apply lm_sR); exact lm_fpB (by omega))
    | ((with_reducible apply lm_sP); exact lm_fpL (by omega); exact rfl)
    | ((with_reducible apply lm_sS); exact lm_ocO (by omega); exact rfl)
    | ((with_reducible apply lm_sA); exact rfl; omega)
    | ((with_reducible apply lm_sJ); exact rfl; omega)
    | ((with_reducible apply lm_sB); (first | exact rfl | exact lm_arB (by omega) | exact lm_arM (by omega)); omega)
    | ((with_reducible apply lm_wA); exact rfl; omega)
    | ((with_reducible apply lm_wJ); exact rfl; omega)
    | ((with_reducible apply lm_wB); (first | exact rfl | exact lm_arB (by omega) | exact lm_arM (by omega)); omega)
    | ((with_reducible apply lm_sAl); (first | exact rfl | exact lm_arB (by omega) | exact lm_arM (by omega)); omega)
    | ((with_reducible apply lm_iW); decide))
  refine lm_cI (lm_u49 (d := d) false) ?_
  refine lm_iF (show ¬ ¬ (0 : Int32) = 0 by decide) ?_
  exact rfl
theorem lm_u34c (hC : lm_cx m n = C) (hs : s ≤ 11) (hl : m 214 0 = Int32.ofNat (3 * lm_sn s)) : ∃ m' n', lm_cal sc (d + 20) 34 [.ref 203, .int (Int32.ofNat s)] (lm_w m n x) = some (.ok (some (.int (Int32.ofNat (4 * lm_sn s)))), lm_w m' n' x) ∧ (∀ q, q ≠ 203 → q ≠ 207 → q ≠ 208 → q ≠ 214 → q ≠ 227 → (q < 333 ∨ 361 < q) → m' q = m q) ∧ (∀ j, j < 18 → j ≠ 4 → m' 203 j = m 203 j) ∧ (∀ q, q ≠ 203 → q ≠ 223 → q ≠ 224 → q ≠ 225 → q ≠ 226 → q ≠ 230 → n' q = n q) ∧ m' 203 4 = 0 ∧ (∀ j, j ≠ 1 → j ≠ 2 → m' 214 j = m 214 j) ∧ m' 214 1 = Int32.ofNat (2 * lm_sn s) ∧ m' 214 2 = Int32.ofNat (4 * lm_sn s) ∧ (∀ t, t < 2 * lm_sn s → lm_b8 (m' 207 t) = lm_ksec C s (m 206) (2 * lm_sn s + t)) ∧ ∀ t, t < 4 * lm_sn s → lm_b8 (m' 208 t) = lm_ksec C s (m 206) t := by
  have hpar := lm_spar s hs
  have hp2 := lm_sh2p hs
  obtain ⟨m1, F1, f1, r1, K1⟩ := lm_l34 (sc := sc) (d := d + 18) (n := n) (x := x) hs hl (by omega)
  rw [decide_eq_true rfl] at K1
  generalize eM2 : lm_u m1 203 4 0 = M2
  have r2 : ∀ r, r ≠ 203 → M2 r = m1 r := fun r hr => by rw [← eM2, lm_u_row hr]
  have t2 : ∀ j, j ≠ 4 → M2 203 j = m1 203 j := fun j hj => by rw [← eM2, lm_u_ne (fun g => hj g.2)]
  have u3 := lm_u75 (sc := sc) (d := d + 18) (m := M2) (n := n) (x := x) (q := 206) (p := 359) (v := 65536) (w := 32) (a := 0) (b := 0) (l := lm_sn s) rfl rfl (by decide) (by omega) (by omega) (by decide) (by decide)
  generalize eM3 : lm_fil M2 359 0 (0 + lm_sn s) (fun i => lm_b8 (M2 206 (0 + (i - 0)))) = M3 at u3
  have r3 : ∀ r, r ≠ 359 → M3 r = M2 r := fun r hr => by rw [← eM3, lm_fl_row hr]
  have u4 := lm_u75 (sc := sc) (d := d + 18) (m := M3) (n := n) (x := x) (q := 206) (p := 358) (v := 65536) (w := 32) (a := 2 * lm_sn s) (b := 0) (l := lm_sn s) rfl rfl (by decide) (by omega) (by omega) (by decide) (by decide)
  generalize eM4 : lm_fil M3 358 0 (0 + lm_sn s) (fun i => lm_b8 (M3 206 (2 * lm_sn s + (i - 0)))) = M4 at u4
  have r4 : ∀ r, r ≠ 358 → M4 r = M3 r := fun r hr => by rw [← eM4, lm_fl_row hr]
  have e206 : M2 206 = m 206 := by rw [r2 206 (by decide), r1 206 (by decide) (by decide)]
  obtain ⟨m5, c5, f5, a5⟩ := lm_u108 (sc := sc) (d := d + 18) (m := M4) (n := n) (x := x) (L := Int32.ofNat (lm_sd s - 1)) (T := Int64.ofNat 0)
  have k203 : ∀ j, j ≠ 4 → m5 203 j = m1 203 j := fun j hj => by rw [f5 203 (by decide), r4 203 (by decide), r3 203 (by decide), t2 j hj]
  have fr5 : ∀ r, r ≠ 203 → r ≠ 333 → r ≠ 358 → r ≠ 359 → m5 r = m r := fun r h1 h2 h3 h4 => by rw [f5 r h2, r4 r h3, r3 r h4, r2 r h1, r1 r h1 h2]
  have X5 : lm_RX (lm_kW C s (m 206)) m5 n := ⟨by
      show lm_cx m5 n = C
      unfold lm_cx lm_tb at hC ⊢
      rw [fr5 221 (by decide) (by decide) (by decide) (by decide)]
      exact hC, by
      show lm_RF m5 s
      unfold lm_RF
      rw [k203 67 (by decide), k203 68 (by decide), k203 69 (by decide), k203 70 (by decide), k203 71 (by decide), k203 72 (by decide), k203 73 (by decide), k203 74 (by decide)]
      exact F1, fun t ht => by
      have ht' : t < lm_sn s := ht
      rw [f5 358 (by decide), ← eM4, lm_fl_in (by omega), lm_b8b8, r3 206 (by decide), e206, Nat.sub_zero]
      show _ = lm_b8 (lm_clp (lm_sn s) _ t)
      rw [lm_clp_t ht', lm_b8b8], fun t ht => by
      have ht' : t < lm_sn s := ht
      rw [f5 359 (by decide), r4 359 (by decide), ← eM3, lm_fl_in (by omega), lm_b8b8, e206, Nat.sub_zero, Nat.zero_add]
      exact (lm_clp_t (f := fun t => lm_b8 (m 206 t)) ht').symm, a5, lm_s3n _ (by omega)⟩
  obtain ⟨m6, n6, c6, f6, g6, S6, o6, v6⟩ := lm_u109 (sc := sc) (d := d + 10 - lm_sh s) (x := x) (W := lm_kW C s (m 206)) hs (lm_sh s) 0 361 32 0 m5 n (by omega) (by omega) X5 rfl (by unfold lm_okp; decide) (by decide) (by omega) (show 0 + lm_sn s ≤ 32 by omega) (by decide)
  rw [show d + 10 - lm_sh s + 9 + lm_sh s = d + 19 by omega] at c6
  have fr6 : ∀ r, r ≠ 203 → r ≠ 227 → (r < 333 ∨ 361 < r) → m6 r = m r := fun r h1 h2 h3 => by rw [f6 r h1 h2 (by omega) (by omega) (by omega) (by omega), fr5 r h1 (by omega) (by omega) (by omega)]
  have e358 : m6 358 = m5 358 := f6 358 (by decide) (by decide) (by decide) (by decide) (by omega) (by decide)
  have u7 := lm_u75 (sc := sc) (d := d + 18) (m := m6) (n := n6) (x := x) (q := 358) (p := 207) (v := 32) (w := 65536) (a := 0) (b := 0) (l := lm_sn s) rfl rfl (by decide) (by omega) (by omega) (by decide) (by decide)
  generalize eM7 : lm_fil m6 207 0 (0 + lm_sn s) (fun i => lm_b8 (m6 358 (0 + (i - 0)))) = M7 at u7
  have r7 : ∀ r, r ≠ 207 → M7 r = m6 r := fun r hr => by rw [← eM7, lm_fl_row hr]
  have u8 := lm_u75 (sc := sc) (d := d + 18) (m := M7) (n := n6) (x := x) (q := 361) (p := 207) (v := 32) (w := 65536) (a := 0) (b := lm_sn s) (l := lm_sn s) rfl rfl (by decide) (by omega) (by omega) (by decide) (by decide)
  generalize eM8 : lm_fil M7 207 (lm_sn s) (lm_sn s + lm_sn s) (fun i => lm_b8 (M7 361 (0 + (i - lm_sn s)))) = M8 at u8
  have r8 : ∀ r, r ≠ 207 → M8 r = M7 r := fun r hr => by rw [← eM8, lm_fl_row hr]
  generalize eM9 : lm_u M8 214 1 (Int32.ofNat (2 * lm_sn s)) = M9
  have r9 : ∀ r, r ≠ 214 → M9 r = M8 r := fun r hr => by rw [← eM9, lm_u_row hr]
  have u10 := lm_u75 (sc := sc) (d := d + 18) (m := M9) (n := n6) (x := x) (q := 206) (p := 208) (v := 65536) (w := 65536) (a := 0) (b := 0) (l := 3 * lm_sn s) rfl rfl (by decide) (by omega) (by omega) (by decide) (by decide)
  generalize eMA : lm_fil M9 208 0 (0 + 3 * lm_sn s) (fun i => lm_b8 (M9 206 (0 + (i - 0)))) = MA at u10
  have rA : ∀ r, r ≠ 208 → MA r = M9 r := fun r hr => by rw [← eMA, lm_fl_row hr]
  have u11 := lm_u75 (sc := sc) (d := d + 18) (m := MA) (n := n6) (x := x) (q := 361) (p := 208) (v := 32) (w := 65536) (a := 0) (b := 3 * lm_sn s) (l := lm_sn s) rfl rfl (by decide) (by omega) (by omega) (by decide) (by decide)
  generalize eMB : lm_fil MA 208 (3 * lm_sn s) (3 * lm_sn s + lm_sn s) (fun i => lm_b8 (MA 361 (0 + (i - 3 * lm_sn s)))) = MB at u11
  have rB : ∀ r, r ≠ 208 → MB r = MA r := fun r hr => by rw [← eMB, lm_fl_row hr]
  have b203 : MB 203 = m6 203 := by rw [rB 203 (by decide), rA 203 (by decide), r9 203 (by decide), r8 203 (by decide), r7 203 (by decide)]
  have v361 : ∀ t, t < lm_sn s → lm_b8 (m6 361 t) = lm_hnd (lm_kW C s (m 206)) false (Int32.ofNat 0) (lm_sh s) 0 t := fun t ht => by rw [← v6 t ht, Nat.zero_add]
  have v207 : ∀ t, t < 2 * lm_sn s → lm_b8 (M8 207 t) = lm_ksec C s (m 206) (2 * lm_sn s + t) := fun t ht => by
    unfold lm_ksec
    by_cases c : t < lm_sn s
    · rw [if_pos (by omega), ← eM8, lm_fl_out (by omega), ← eM7, lm_fl_in (by omega), lm_b8b8, e358, Nat.sub_zero, Nat.zero_add]
      have := X5.2.2.1 t c
      rw [this]
      show lm_b8 (lm_clp (lm_sn s) _ t) = _
      rw [lm_clp_t c, lm_b8b8]
    · rw [if_neg (by omega), ← eM8, lm_fl_in (by omega), lm_b8b8, r7 361 (by decide), Nat.zero_add, v361 _ (by omega)]
      congr 1
      omega
  have v208 : ∀ t, t < 4 * lm_sn s → lm_b8 (MB 208 t) = lm_ksec C s (m 206) t := fun t ht => by
    unfold lm_ksec
    by_cases c : t < 3 * lm_sn s
    · rw [if_pos c, ← eMB, lm_fl_out (by omega), ← eMA, lm_fl_in (by omega), lm_b8b8, r9 206 (by decide), r8 206 (by decide), r7 206 (by decide), fr6 206 (by decide) (by decide) (by decide), Nat.sub_zero, Nat.zero_add]
    · rw [if_neg c, ← eMB, lm_fl_in (by omega), lm_b8b8, rA 361 (by decide), r9 361 (by decide), r8 361 (by decide), r7 361 (by decide), Nat.zero_add, v361 _ (by omega)]
  refine ⟨lm_u MB 214 2 (Int32.ofNat (4 * lm_sn s)), n6, K1 _ ?_, fun q h1 h2 h3 h4 h5 h6 => by rw [lm_u_row h4, rB q h3, rA q h3, r9 q h4, r8 q h2, r7 q h2, fr6 q h1 h5 h6], fun j h1 h2 => by rw [lm_u_row (by decide), b203, g6.1 j (by omega) (by omega) (by omega), k203 j h2, f1 j h2 (by omega)], g6.2, ?_, fun j h1 h2 => ?_, ?_, lm_u_eq, fun t ht => ?_, fun t ht => ?_⟩
  · clear v207 v208 v361 v6 o6 X5 S6 a5
    have w67 : ∀ M' : lm_MI, M' 203 = m6 203 → M' 203 67 = Int32.ofNat (lm_sn s) := fun M' e => by rw [e, g6.1 67 (by decide) (by decide) (by decide), k203 67 (by decide)]; exact F1.1
    refine lm_e34_43 ?_
    unfold lm_q34_43
    repeat (first
    | ((with_reducible apply lm_sI); exact rfl)
    | ((with_reducible apply lm_sR); exact rfl)
    | ((with_reducible apply lm_sS); exact rfl; exact rfl)
    | ((with_reducible apply lm_sL); exact rfl)
    | ((with_reducible apply lm_sP); exact rfl; exact rfl)
    | ((with_reducible apply lm_sPL); exact rfl; exact rfl)
    | ((with_reducible apply lm_sAA); exact rfl; first | exact rfl | exact lm_roO (by omega) | exact lm_roM (by omega))
    | ((with_reducible apply lm_sI); exact lm_fpL (by omega))
    | ((with_reducible apply lm_sR); exact lm_fpB (by omega))
    | ((with_reducible apply lm_sP); exact lm_fpL (by omega); exact rfl)
    | ((with_reducible apply lm_sS); exact lm_ocO (by omega); exact rfl)
    | ((with_reducible apply lm_sA); exact rfl; omega)
    | ((with_reducible apply lm_sJ); exact rfl; omega)
    | ((with_reducible apply lm_sB); (first | exact rfl | exact lm_arB (by omega) | exact lm_arM (by omega)); omega)
    | ((with_reducible apply lm_wA); exact rfl; omega)
    | ((with_reducible apply lm_wJ); exact rfl; omega)
    | ((with_reducible apply lm_wB); (first | exact rfl | exact lm_arB (by omega) | exact lm_arM (by omega)); omega)
    | ((with_reducible apply lm_sAl); (first | exact rfl | exact lm_arB (by omega) | exact lm_arM (by omega)); omega)
    | ((with_reducible apply lm_iW); decide))
    refine lm_cI (lm_u49 (d := d + 18) true) ?_
    refine lm_iT (show ¬ (1 : Int32) = 0 by decide) ?_
    rw [show lm_u m1 203 4 (cond true 0 (Int32.ofInt 2)) = M2 from eM2]
    rw [lm_K0, lm_K1, lm_K2, lm_K3, show Int32.ofInt 4 = Int32.ofNat 4 from rfl]
    repeat (first
    | ((with_reducible apply lm_sI); exact rfl)
    | ((with_reducible apply lm_sR); exact rfl)
    | ((with_reducible apply lm_sS); exact rfl; exact rfl)
    | ((with_reducible apply lm_sL); exact rfl)
    | ((with_reducible apply lm_sP); exact rfl; exact rfl)
    | ((with_reducible apply lm_sPL); exact rfl; exact rfl)
    | ((with_reducible apply lm_sAA); exact rfl; first | exact rfl | exact lm_roO (by omega) | exact lm_roM (by omega))
    | ((with_reducible apply lm_sI); exact lm_fpL (by omega))
    | ((with_reducible apply lm_sR); exact lm_fpB (by omega))
    | ((with_reducible apply lm_sP); exact lm_fpL (by omega); exact rfl)
    | ((with_reducible apply lm_sS); exact lm_ocO (by omega); exact rfl)
    | ((with_reducible apply lm_sA); exact rfl; omega)
    | ((with_reducible apply lm_sJ); exact rfl; omega)
    | ((with_reducible apply lm_sB); (first | exact rfl | exact lm_arB (by omega) | exact lm_arM (by omega)); omega)
    | ((with_reducible apply lm_wA); exact rfl; omega)
    | ((with_reducible apply lm_wJ); exact rfl; omega)
    | ((with_reducible apply lm_wB); (first | exact rfl | exact lm_arB (by omega) | exact lm_arM (by omega)); omega)
    | ((with_reducible apply lm_sAl); (first | exact rfl | exact lm_arB (by omega) | exact lm_arM (by omega)); omega)
    | ((with_reducible apply lm_iW); decide))
    simp only [Nat.reduceDiv, Nat.reduceMod]
    rw [t2 67 (by decide), F1.1]
    refine lm_cV u3 ?_
    repeat (first
    | ((with_reducible apply lm_sI); exact rfl)
    | ((with_reducible apply lm_sR); exact rfl)
    | ((with_reducible apply lm_sS); exact rfl; exact rfl)
    | ((with_reducible apply lm_sL); exact rfl)
    | ((with_reducible apply lm_sP); exact rfl; exact rfl)
    | ((with_reducible apply lm_sPL); exact rfl; exact rfl)
    | ((with_reducible apply lm_sAA); exact rfl; first | exact rfl | exact lm_roO (by omega) | exact lm_roM (by omega))
    | ((with_reducible apply lm_sI); exact lm_fpL (by omega))
    | ((with_reducible apply lm_sR); exact lm_fpB (by omega))
    | ((with_reducible apply lm_sP); exact lm_fpL (by omega); exact rfl)
    | ((with_reducible apply lm_sS); exact lm_ocO (by omega); exact rfl)
    | ((with_reducible apply lm_sA); exact rfl; omega)
    | ((with_reducible apply lm_sJ); exact rfl; omega)
    | ((with_reducible apply lm_sB); (first | exact rfl | exact lm_arB (by omega) | exact lm_arM (by omega)); omega)
    | ((with_reducible apply lm_wA); exact rfl; omega)
    | ((with_reducible apply lm_wJ); exact rfl; omega)
    | ((with_reducible apply lm_wB); (first | exact rfl | exact lm_arB (by omega) | exact lm_arM (by omega)); omega)
    | ((with_reducible apply lm_sAl); (first | exact rfl | exact lm_arB (by omega) | exact lm_arM (by omega)); omega)
    | ((with_reducible apply lm_iW); decide))
    simp only [Nat.reduceDiv, Nat.reduceMod]
    rw [r3 203 (by decide), t2 67 (by decide), F1.1, lm_om]
    refine lm_cV u4 ?_
    repeat (first
    | ((with_reducible apply lm_sI); exact rfl)
    | ((with_reducible apply lm_sR); exact rfl)
    | ((with_reducible apply lm_sS); exact rfl; exact rfl)
    | ((with_reducible apply lm_sL); exact rfl)
    | ((with_reducible apply lm_sP); exact rfl; exact rfl)
    | ((with_reducible apply lm_sPL); exact rfl; exact rfl)
    | ((with_reducible apply lm_sAA); exact rfl; first | exact rfl | exact lm_roO (by omega) | exact lm_roM (by omega))
    | ((with_reducible apply lm_sI); exact lm_fpL (by omega))
    | ((with_reducible apply lm_sR); exact lm_fpB (by omega))
    | ((with_reducible apply lm_sP); exact lm_fpL (by omega); exact rfl)
    | ((with_reducible apply lm_sS); exact lm_ocO (by omega); exact rfl)
    | ((with_reducible apply lm_sA); exact rfl; omega)
    | ((with_reducible apply lm_sJ); exact rfl; omega)
    | ((with_reducible apply lm_sB); (first | exact rfl | exact lm_arB (by omega) | exact lm_arM (by omega)); omega)
    | ((with_reducible apply lm_wA); exact rfl; omega)
    | ((with_reducible apply lm_wJ); exact rfl; omega)
    | ((with_reducible apply lm_wB); (first | exact rfl | exact lm_arB (by omega) | exact lm_arM (by omega)); omega)
    | ((with_reducible apply lm_sAl); (first | exact rfl | exact lm_arB (by omega) | exact lm_arM (by omega)); omega)
    | ((with_reducible apply lm_iW); decide))
    simp only [Nat.reduceDiv, Nat.reduceMod]
    rw [r4 203 (by decide), r3 203 (by decide), t2 69 (by decide), F1.2.2.1, lm_osu (by omega)]
    refine lm_cV c5 ?_
    repeat (first
    | ((with_reducible apply lm_sI); exact rfl)
    | ((with_reducible apply lm_sR); exact rfl)
    | ((with_reducible apply lm_sS); exact rfl; exact rfl)
    | ((with_reducible apply lm_sL); exact rfl)
    | ((with_reducible apply lm_sP); exact rfl; exact rfl)
    | ((with_reducible apply lm_sPL); exact rfl; exact rfl)
    | ((with_reducible apply lm_sAA); exact rfl; first | exact rfl | exact lm_roO (by omega) | exact lm_roM (by omega))
    | ((with_reducible apply lm_sI); exact lm_fpL (by omega))
    | ((with_reducible apply lm_sR); exact lm_fpB (by omega))
    | ((with_reducible apply lm_sP); exact lm_fpL (by omega); exact rfl)
    | ((with_reducible apply lm_sS); exact lm_ocO (by omega); exact rfl)
    | ((with_reducible apply lm_sA); exact rfl; omega)
    | ((with_reducible apply lm_sJ); exact rfl; omega)
    | ((with_reducible apply lm_sB); (first | exact rfl | exact lm_arB (by omega) | exact lm_arM (by omega)); omega)
    | ((with_reducible apply lm_wA); exact rfl; omega)
    | ((with_reducible apply lm_wJ); exact rfl; omega)
    | ((with_reducible apply lm_wB); (first | exact rfl | exact lm_arB (by omega) | exact lm_arM (by omega)); omega)
    | ((with_reducible apply lm_sAl); (first | exact rfl | exact lm_arB (by omega) | exact lm_arM (by omega)); omega)
    | ((with_reducible apply lm_iW); decide))
    simp only [Nat.reduceDiv, Nat.reduceMod]
    rw [k203 70 (by decide), F1.2.2.2.1]
    refine lm_cV c6 ?_
    repeat (first
    | ((with_reducible apply lm_sI); exact rfl)
    | ((with_reducible apply lm_sR); exact rfl)
    | ((with_reducible apply lm_sS); exact rfl; exact rfl)
    | ((with_reducible apply lm_sL); exact rfl)
    | ((with_reducible apply lm_sP); exact rfl; exact rfl)
    | ((with_reducible apply lm_sPL); exact rfl; exact rfl)
    | ((with_reducible apply lm_sAA); exact rfl; first | exact rfl | exact lm_roO (by omega) | exact lm_roM (by omega))
    | ((with_reducible apply lm_sI); exact lm_fpL (by omega))
    | ((with_reducible apply lm_sR); exact lm_fpB (by omega))
    | ((with_reducible apply lm_sP); exact lm_fpL (by omega); exact rfl)
    | ((with_reducible apply lm_sS); exact lm_ocO (by omega); exact rfl)
    | ((with_reducible apply lm_sA); exact rfl; omega)
    | ((with_reducible apply lm_sJ); exact rfl; omega)
    | ((with_reducible apply lm_sB); (first | exact rfl | exact lm_arB (by omega) | exact lm_arM (by omega)); omega)
    | ((with_reducible apply lm_wA); exact rfl; omega)
    | ((with_reducible apply lm_wJ); exact rfl; omega)
    | ((with_reducible apply lm_wB); (first | exact rfl | exact lm_arB (by omega) | exact lm_arM (by omega)); omega)
    | ((with_reducible apply lm_sAl); (first | exact rfl | exact lm_arB (by omega) | exact lm_arM (by omega)); omega)
    | ((with_reducible apply lm_iW); decide))
    simp only [Nat.reduceDiv, Nat.reduceMod]
    rw [w67 m6 rfl]
    refine lm_cV u7 ?_
    repeat (first
    | ((with_reducible apply lm_sI); exact rfl)
    | ((with_reducible apply lm_sR); exact rfl)
    | ((with_reducible apply lm_sS); exact rfl; exact rfl)
    | ((with_reducible apply lm_sL); exact rfl)
    | ((with_reducible apply lm_sP); exact rfl; exact rfl)
    | ((with_reducible apply lm_sPL); exact rfl; exact rfl)
    | ((with_reducible apply lm_sAA); exact rfl; first | exact rfl | exact lm_roO (by omega) | exact lm_roM (by omega))
    | ((with_reducible apply lm_sI); exact lm_fpL (by omega))
    | ((with_reducible apply lm_sR); exact lm_fpB (by omega))
    | ((with_reducible apply lm_sP); exact lm_fpL (by omega); exact rfl)
    | ((with_reducible apply lm_sS); exact lm_ocO (by omega); exact rfl)
    | ((with_reducible apply lm_sA); exact rfl; omega)
    | ((with_reducible apply lm_sJ); exact rfl; omega)
    | ((with_reducible apply lm_sB); (first | exact rfl | exact lm_arB (by omega) | exact lm_arM (by omega)); omega)
    | ((with_reducible apply lm_wA); exact rfl; omega)
    | ((with_reducible apply lm_wJ); exact rfl; omega)
    | ((with_reducible apply lm_wB); (first | exact rfl | exact lm_arB (by omega) | exact lm_arM (by omega)); omega)
    | ((with_reducible apply lm_sAl); (first | exact rfl | exact lm_arB (by omega) | exact lm_arM (by omega)); omega)
    | ((with_reducible apply lm_iW); decide))
    simp only [Nat.reduceDiv, Nat.reduceMod]
    rw [w67 M7 (r7 203 (by decide))]
    refine lm_cV u8 ?_
    repeat (first
    | ((with_reducible apply lm_sI); exact rfl)
    | ((with_reducible apply lm_sR); exact rfl)
    | ((with_reducible apply lm_sS); exact rfl; exact rfl)
    | ((with_reducible apply lm_sL); exact rfl)
    | ((with_reducible apply lm_sP); exact rfl; exact rfl)
    | ((with_reducible apply lm_sPL); exact rfl; exact rfl)
    | ((with_reducible apply lm_sAA); exact rfl; first | exact rfl | exact lm_roO (by omega) | exact lm_roM (by omega))
    | ((with_reducible apply lm_sI); exact lm_fpL (by omega))
    | ((with_reducible apply lm_sR); exact lm_fpB (by omega))
    | ((with_reducible apply lm_sP); exact lm_fpL (by omega); exact rfl)
    | ((with_reducible apply lm_sS); exact lm_ocO (by omega); exact rfl)
    | ((with_reducible apply lm_sA); exact rfl; omega)
    | ((with_reducible apply lm_sJ); exact rfl; omega)
    | ((with_reducible apply lm_sB); (first | exact rfl | exact lm_arB (by omega) | exact lm_arM (by omega)); omega)
    | ((with_reducible apply lm_wA); exact rfl; omega)
    | ((with_reducible apply lm_wJ); exact rfl; omega)
    | ((with_reducible apply lm_wB); (first | exact rfl | exact lm_arB (by omega) | exact lm_arM (by omega)); omega)
    | ((with_reducible apply lm_sAl); (first | exact rfl | exact lm_arB (by omega) | exact lm_arM (by omega)); omega)
    | ((with_reducible apply lm_iW); decide))
    simp only [Nat.reduceDiv, Nat.reduceMod]
    rw [w67 M8 (by rw [r8 203 (by decide), r7 203 (by decide)]), lm_om, eM9, w67 M9 (by rw [r9 203 (by decide), r8 203 (by decide), r7 203 (by decide)]), lm_om]
    refine lm_cV u10 ?_
    repeat (first
    | ((with_reducible apply lm_sI); exact rfl)
    | ((with_reducible apply lm_sR); exact rfl)
    | ((with_reducible apply lm_sS); exact rfl; exact rfl)
    | ((with_reducible apply lm_sL); exact rfl)
    | ((with_reducible apply lm_sP); exact rfl; exact rfl)
    | ((with_reducible apply lm_sPL); exact rfl; exact rfl)
    | ((with_reducible apply lm_sAA); exact rfl; first | exact rfl | exact lm_roO (by omega) | exact lm_roM (by omega))
    | ((with_reducible apply lm_sI); exact lm_fpL (by omega))
    | ((with_reducible apply lm_sR); exact lm_fpB (by omega))
    | ((with_reducible apply lm_sP); exact lm_fpL (by omega); exact rfl)
    | ((with_reducible apply lm_sS); exact lm_ocO (by omega); exact rfl)
    | ((with_reducible apply lm_sA); exact rfl; omega)
    | ((with_reducible apply lm_sJ); exact rfl; omega)
    | ((with_reducible apply lm_sB); (first | exact rfl | exact lm_arB (by omega) | exact lm_arM (by omega)); omega)
    | ((with_reducible apply lm_wA); exact rfl; omega)
    | ((with_reducible apply lm_wJ); exact rfl; omega)
    | ((with_reducible apply lm_wB); (first | exact rfl | exact lm_arB (by omega) | exact lm_arM (by omega)); omega)
    | ((with_reducible apply lm_sAl); (first | exact rfl | exact lm_arB (by omega) | exact lm_arM (by omega)); omega)
    | ((with_reducible apply lm_iW); decide))
    simp only [Nat.reduceDiv, Nat.reduceMod]
    rw [w67 MA (by rw [rA 203 (by decide), r9 203 (by decide), r8 203 (by decide), r7 203 (by decide)]), lm_om]
    refine lm_cV u11 ?_
    repeat (first
    | ((with_reducible apply lm_sI); exact rfl)
    | ((with_reducible apply lm_sR); exact rfl)
    | ((with_reducible apply lm_sS); exact rfl; exact rfl)
    | ((with_reducible apply lm_sL); exact rfl)
    | ((with_reducible apply lm_sP); exact rfl; exact rfl)
    | ((with_reducible apply lm_sPL); exact rfl; exact rfl)
    | ((with_reducible apply lm_sAA); exact rfl; first | exact rfl | exact lm_roO (by omega) | exact lm_roM (by omega))
    | ((with_reducible apply lm_sI); exact lm_fpL (by omega))
    | ((with_reducible apply lm_sR); exact lm_fpB (by omega))
    | ((with_reducible apply lm_sP); exact lm_fpL (by omega); exact rfl)
    | ((with_reducible apply lm_sS); exact lm_ocO (by omega); exact rfl)
    | ((with_reducible apply lm_sA); exact rfl; omega)
    | ((with_reducible apply lm_sJ); exact rfl; omega)
    | ((with_reducible apply lm_sB); (first | exact rfl | exact lm_arB (by omega) | exact lm_arM (by omega)); omega)
    | ((with_reducible apply lm_wA); exact rfl; omega)
    | ((with_reducible apply lm_wJ); exact rfl; omega)
    | ((with_reducible apply lm_wB); (first | exact rfl | exact lm_arB (by omega) | exact lm_arM (by omega)); omega)
    | ((with_reducible apply lm_sAl); (first | exact rfl | exact lm_arB (by omega) | exact lm_arM (by omega)); omega)
    | ((with_reducible apply lm_iW); decide))
    simp only [Nat.reduceDiv, Nat.reduceMod]
    rw [w67 MB b203, lm_om, lm_u_row (by decide), w67 MB b203, lm_om]
    exact rfl
  · rw [lm_u_row (by decide), b203, g6.1 4 (by decide) (by decide) (by decide), f5 203 (by decide), r4 203 (by decide), r3 203 (by decide), ← eM2, lm_u_eq]
  · rw [lm_u_ne (fun g => h2 g.2), rB 214 (by decide), rA 214 (by decide), ← eM9, lm_u_ne (fun g => h1 g.2), r8 214 (by decide), r7 214 (by decide), fr6 214 (by decide) (by decide) (by decide)]
  · rw [lm_u_ne (by decide), rB 214 (by decide), rA 214 (by decide), ← eM9, lm_u_eq]
  · rw [lm_u_row (by decide), rB 207 (by decide), rA 207 (by decide), r9 207 (by decide), v207 t ht]
  · rw [lm_u_row (by decide), v208 t ht]
theorem lm_st15 (hc : lm_Con m n) (h : lm_Tie m) : lm_Stp (lm_sc xs) 33 34 [.int v] m n x := by
  intro r hr
  have hx := lm_rm_room hr
  rcases lm_range v (n := 11) (by omega) with ⟨s, hs, e⟩ | e
  · subst e
    have hpar := lm_spar s hs
    obtain ⟨l, a1, a2, a3, a4⟩ := h.2 0 (by decide)
    by_cases c3 : l = 3 * lm_sn s
    · subst c3
      obtain ⟨m1, n1, c1, b2, b3, b4, b5, b6, b7⟩ := lm_u106c (xs := xs) (d := 590) (x := x) (n := n) (hc.cok xs) hs hc.rt a2
      have C1 : lm_cx m1 n1 = lm_cx m n := b3.cx (b2 221 (by decide) (by decide) (by decide))
      have e206 : m1 206 = m 206 := b2 206 (by decide) (by decide) (by decide)
      have e214 : m1 214 = m 214 := b2 214 (by decide) (by decide) (by decide)
      obtain ⟨m2, n2, c2, d2, d3, d4, d5, d6, d7, d8, d9, d10⟩ := lm_u34c (sc := lm_sc xs) (d := 580) (x := lm_so (Int32.ofNat (4 * lm_sn s)).toInt64 x) (m := m1) (n := n1) C1 hs (by rw [e214]; exact a3)
      have eK : ∀ t, lm_ksec (lm_cx m n) s (m 27) t = lm_ksec (lm_cx m n) s (m1 206) t := fun t => by rw [e206]; exact lm_ksec_x (fun t ht => a4 t ht)
      have T1 : lm_TieS m2 1 := ⟨2 * lm_sn s, by omega, by
          show m2 28 1 = _
          rw [d2 28 (by decide) (by decide) (by decide) (by decide) (by decide) (by decide)]
          exact b4, d7, fun t ht => by
          show lm_b8 (m2 29 t) = lm_b8 (m2 207 t)
          rw [d2 29 (by decide) (by decide) (by decide) (by decide) (by decide) (by decide), b6 t ht, d9 t ht, eK]⟩
      have T2 : lm_TieS m2 2 := ⟨4 * lm_sn s, by omega, by
          show m2 30 1 = _
          rw [d2 30 (by decide) (by decide) (by decide) (by decide) (by decide) (by decide)]
          exact b5, d8, fun t ht => by
          show lm_b8 (m2 31 t) = lm_b8 (m2 208 t)
          rw [d2 31 (by decide) (by decide) (by decide) (by decide) (by decide) (by decide), b7 t ht, d10 t ht, eK]⟩
      obtain ⟨z1, z2⟩ := lm_tk (J := fun j => decide (j = 1) || decide (j = 2)) (n2 := n2) h b3 (fun q hq => b2 q (by omega) (by omega) (by omega)) (fun j hj c => by
        have := lm_j12f j hj c
        exact ⟨b2 _ (by omega) (by omega) (by omega), b2 _ (by omega) (by omega) (by omega)⟩) (fun q hq => d2 q (by omega) (by omega) (by omega) (by omega) (by omega) (by omega)) (d3 3 (by decide) (by decide)) (fun q hq => d4 q (by omega) (by omega) (by omega) (by omega) (by omega) (by omega)) (fun j hj c => by
        have := lm_j12f j hj c
        exact ⟨d6 j this.1 this.2, d2 _ (by omega) (by omega) (by omega) (by omega) (by omega) (by omega)⟩) (fun j hj c => by
        rcases lm_j12 j hj c with e | e
        · subst e; exact T1
        · subst e; exact T2)
      refine ⟨0, Int32.ofNat (4 * lm_sn s), m1, n1, _, m2, n2, lm_v33 hr.2.2.2 c1, c2, d5, fun _ => ?_, z1, z2, lm_rm_so hr⟩
      rw [lm_gv_so hr.2.2.2]
    · obtain ⟨m1, c1, b2⟩ := lm_u106d (xs := xs) (d := 590) (x := x) (n := n) hs a2 a1 c3 hx
      obtain ⟨m2, c2, d2, d4, d3⟩ := lm_u34d (sc := lm_sc xs) (d := 598) (x := lm_xx 14 x) (m := m1) (n := n) hs (by rw [b2 214 (by decide) (by decide)]; exact a3) a1 c3
      obtain ⟨z1, z2⟩ := lm_tk (J := fun _ => false) (n2 := n) h (lm_fN.of (b2 11 (by decide) (by decide)) (b2 17 (by decide) (by decide)) : lm_fN m n m1 n) (fun q hq => b2 q (by omega) (by omega)) (fun j hj c => ⟨b2 _ (by omega) (by omega), b2 _ (by omega) (by omega)⟩) (fun q hq => d2 q (by omega) (by omega)) d3 (fun q hq => rfl) (fun j hj c => ⟨by rw [d2 214 (by decide) (by decide)], d2 _ (by omega) (by omega)⟩) (fun j hj c => absurd c (by decide))
      exact ⟨2, 0, m1, n, _, m2, n, lm_v33_14 hx c1, c2, d4, fun h => absurd h (by decide), z1, z2, lm_rm_xx hr⟩
  · exact ⟨1, 0, _, _, _, _, _, lm_v33_13 hx (lm_u106a (d := 596) e hx), lm_u34a (d := 598) e, lm_u_eq, fun h => absurd h (by decide), h.cod, lm_kpc, lm_rm_xx hr⟩
end LMTG
