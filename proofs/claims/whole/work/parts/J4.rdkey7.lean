/-! ===== dsaKeys of the reference: the end ===== -/
section LMRO
variable {sc : lm_H} {C : lm_CX} {d s : Nat} {m : lm_MI} {n : lm_ML} {x : lm_H × Nat × Nat} {K : Nat → Int32}
theorem lm_u94' (hs : s ≤ 2) (e32 : m 203 32 = Int32.ofNat (lm_dk s)) (e42 : m 203 42 = Int32.ofNat (lm_dl s)) (e43 : m 203 43 = Int32.ofNat (lm_de s)) : lm_cal sc (d + 1) 94 [.ref 203] (lm_w m n x) = some (.ok (some (.int (Int32.ofNat (lm_dss s)))), lm_w m n x) := by
  have hde := lm_de_2 hs
  have z := lm_xsz2 s hs
  have fin : ∀ w, lm_xb s = w → lm_rn sc d lm_m94.2.2.2.2.1 (lm_reg lm_m94.2.2.2.2.2) (27, [(0, .ref 203)], [.int (Int32.ofNat w), .int (Int32.ofNat (lm_dl s + lm_dk s)), .int (Int32.ofNat 32), .int (Int32.ofNat 128)]) (lm_w m n x) = some (.ok (some (.int (Int32.ofNat (lm_dss s)))), lm_w m n x) := by
    intro w hw
    subst hw
    refine lm_e94_27 ?_
    unfold lm_q94_27
    repeat (first
    | ((with_reducible apply lm_sI); exact rfl)
    | ((with_reducible apply lm_sR); exact rfl)
    | ((with_reducible apply lm_sS); exact rfl; exact rfl)
    | ((with_reducible apply lm_sL); exact rfl)
    | ((with_reducible apply lm_sP); exact rfl; exact rfl)
    | ((with_reducible apply lm_sPL); exact rfl; exact rfl)
    | ((with_reducible apply lm_sAA); exact rfl; exact rfl)
    | ((with_reducible apply lm_sA); (first | exact rfl | assumption); omega)
    | ((with_reducible apply lm_sJ); (first | exact rfl | assumption); omega)
    | ((with_reducible apply lm_sB); (first | exact rfl | assumption); omega)
    | ((with_reducible apply lm_wA); (first | exact rfl | assumption); omega)
    | ((with_reducible apply lm_wJ); (first | exact rfl | assumption); omega)
    | ((with_reducible apply lm_wB); (first | exact rfl | assumption); omega)
    | ((with_reducible apply lm_sAl); (first | exact rfl | assumption); omega)
    | ((with_reducible apply lm_iW); decide))
    simp only [Nat.reduceDiv, Nat.reduceMod]
    rw [e32, show Int32.ofInt 13 = Int32.ofNat 13 from rfl, lm_om, lm_om, lm_oo, lm_om, lm_oo, ← z, Nat.add_comm (lm_dl s)]
    rfl
  refine lm_cal_of (Y := lm_m94) rfl rfl (lm_e94_0 ?_)
  unfold lm_q94_0
  repeat (first
    | ((with_reducible apply lm_sI); exact rfl)
    | ((with_reducible apply lm_sR); exact rfl)
    | ((with_reducible apply lm_sS); exact rfl; exact rfl)
    | ((with_reducible apply lm_sL); exact rfl)
    | ((with_reducible apply lm_sP); exact rfl; exact rfl)
    | ((with_reducible apply lm_sPL); exact rfl; exact rfl)
    | ((with_reducible apply lm_sAA); exact rfl; exact rfl)
    | ((with_reducible apply lm_sA); (first | exact rfl | assumption); omega)
    | ((with_reducible apply lm_sJ); (first | exact rfl | assumption); omega)
    | ((with_reducible apply lm_sB); (first | exact rfl | assumption); omega)
    | ((with_reducible apply lm_wA); (first | exact rfl | assumption); omega)
    | ((with_reducible apply lm_wJ); (first | exact rfl | assumption); omega)
    | ((with_reducible apply lm_wB); (first | exact rfl | assumption); omega)
    | ((with_reducible apply lm_sAl); (first | exact rfl | assumption); omega)
    | ((with_reducible apply lm_iW); decide))
  simp only [Nat.reduceDiv, Nat.reduceMod]
  rw [e32, e42, e43, lm_oo, lm_K2, lm_K32, lm_K128, lm_K3, lm_K4]
  by_cases c : lm_de s = 2
  · refine lm_neF (by omega) (by omega) (by omega) ?_
    exact fin 3 (by unfold lm_xb; rw [if_pos c])
  · refine lm_neT (by omega) (by omega) c ?_
    exact fin 4 (by unfold lm_xb; rw [if_neg c])
/-- the lows are packed behind the small polynomials -/
theorem lm_l28g {T0 : Nat} {S : Nat → Bool} {V : Nat → Nat → Int} (hs : s ≤ 2) (h32 : m 203 32 = Int32.ofNat (lm_dk s)) (hT0 : T0 ≤ 15360) (h24 : m 203 24 = Int32.ofNat (T0 + 13 * (256 * 0))) (hP : lm_PB m 327 0 (T0 + 13 * (256 * 0)) S) (hS : ∀ t, S (T0 + t) = lm_ts (lm_Fg (fun i c => 4096 - V i c)) 13 t) (hV : ∀ i, i < lm_dk s → ∀ c, c < 256 → m (270 + (20 + i)) c = Int32.ofInt (V i c) ∧ -4095 ≤ V i c ∧ V i c ≤ 4096) : ∃ m', (∀ r, r ≠ 203 → r ≠ 327 → m' r = m r) ∧ (∀ j, j ≠ 24 → m' 203 j = m 203 j) ∧ lm_PB m' 327 0 (T0 + 13 * (256 * lm_dk s)) S ∧ ∀ R, lm_rn sc (d + 6) lm_m28.2.2.2.2.1 (lm_reg lm_m28.2.2.2.2.2) (499, [(0, .ref 203), (5, .int (Int32.ofNat (lm_dk s)))], []) (lm_w m' n x) = some R → lm_rn sc (d + 6) lm_m28.2.2.2.2.1 (lm_reg lm_m28.2.2.2.2.2) (499, [(0, .ref 203), (5, .int (Int32.ofNat 0))], []) (lm_w m n x) = some R := by
  have hkl := lm_dkl hs
  obtain ⟨m', n', ⟨en, h1, h2, h3, h4⟩, k1⟩ := lm_lp (sc := sc) (d := d + 6) (b := lm_dk s) (hs := lm_m28.2.2.2.2.1) (code := lm_reg lm_m28.2.2.2.2.2) (x := x) (fr := fun i => (499, [(0, .ref 203), (5, .int (Int32.ofNat i))], [])) (I := fun i m' n' => n' = n ∧ (∀ r, r ≠ 203 → r ≠ 327 → m' r = m r) ∧ (∀ j, j ≠ 24 → m' 203 j = m 203 j) ∧ m' 203 24 = Int32.ofNat (T0 + 13 * (256 * i)) ∧ lm_PB m' 327 0 (T0 + 13 * (256 * i)) S) (fun i hi m1 n1 ⟨en, h1, h2, h3, h4⟩ => by
    have e32 : m1 203 32 = Int32.ofNat (lm_dk s) := by rw [h2 32 (by decide)]; exact h32
    obtain ⟨m2, c2, p2, t2, f2, g2⟩ := lm_u88 (sc := sc) (d := d + 4) (m := m1) (n := n1) (x := x) (q := 327) (v := 16384) (p := 270 + (20 + i)) (T := T0 + 13 * (256 * i)) (bits := 13) (B := 4096) (V := V i) (S := S) rfl (by decide) (by decide) (lm_arY (20 + i) (by omega)) (by omega) h3 (by omega) (by omega) (fun c hc => by
      obtain ⟨v1, v2, v3⟩ := hV i hi c hc
      exact ⟨by rw [h1 _ (by omega) (by omega)]; exact v1, by omega, by omega⟩) h4 (fun j hj k hk => by
      rw [show T0 + 13 * (256 * i) + 13 * j + k = T0 + (13 * (256 * i) + 13 * j + k) by omega, hS, lm_Fg_ts (by omega) hj hk])
    rw [show T0 + 13 * (256 * i) + 13 * 256 = T0 + 13 * (256 * (i + 1)) by omega] at p2 t2
    refine ⟨m2, n1, ⟨en, fun r r1 r2 => (f2 r r1 r2).trans (h1 r r1 r2), fun j hj => (g2 j hj).trans (h2 j hj), t2, p2⟩, fun R K => lm_e28_499 ?_⟩
    clear hV
    unfold lm_q28_499
    repeat (first
    | ((with_reducible apply lm_sI); exact rfl)
    | ((with_reducible apply lm_sR); exact rfl)
    | ((with_reducible apply lm_sS); exact rfl; exact rfl)
    | ((with_reducible apply lm_sL); exact rfl)
    | ((with_reducible apply lm_sP); exact rfl; exact rfl)
    | ((with_reducible apply lm_sPL); exact rfl; exact rfl)
    | ((with_reducible apply lm_sAA); exact rfl; exact rfl)
    | ((with_reducible apply lm_sA); (first | exact rfl | assumption); omega)
    | ((with_reducible apply lm_sJ); (first | exact rfl | assumption); omega)
    | ((with_reducible apply lm_sB); (first | exact rfl | assumption); omega)
    | ((with_reducible apply lm_wA); (first | exact rfl | assumption); omega)
    | ((with_reducible apply lm_wJ); (first | exact rfl | assumption); omega)
    | ((with_reducible apply lm_wB); (first | exact rfl | assumption); omega)
    | ((with_reducible apply lm_sAl); (first | exact rfl | assumption); omega)
    | ((with_reducible apply lm_iW); decide))
    simp only [Nat.reduceDiv, Nat.reduceMod]
    rw [e32]
    refine lm_geF (by omega) (by omega) (by omega) ?_
    rw [show Int32.ofInt 20 = Int32.ofNat 20 from rfl, lm_oo, lm_K0, lm_K13]
    repeat (first
    | ((with_reducible apply lm_sI); exact rfl)
    | ((with_reducible apply lm_sR); exact rfl)
    | ((with_reducible apply lm_sS); exact rfl; exact rfl)
    | ((with_reducible apply lm_sL); exact rfl)
    | ((with_reducible apply lm_sP); exact rfl; exact rfl)
    | ((with_reducible apply lm_sPL); exact rfl; exact rfl)
    | ((with_reducible apply lm_sAA); exact rfl; exact rfl)
    | ((with_reducible apply lm_sA); (first | exact rfl | assumption); omega)
    | ((with_reducible apply lm_sJ); (first | exact rfl | assumption); omega)
    | ((with_reducible apply lm_sB); (first | exact rfl | assumption); omega)
    | ((with_reducible apply lm_wA); (first | exact rfl | assumption); omega)
    | ((with_reducible apply lm_wJ); (first | exact rfl | assumption); omega)
    | ((with_reducible apply lm_wB); (first | exact rfl | assumption); omega)
    | ((with_reducible apply lm_sAl); (first | exact rfl | assumption); omega)
    | ((with_reducible apply lm_iW); decide))
    refine lm_sAA rfl (lm_roY (20 + i) (by omega)) ?_
    repeat (first
    | ((with_reducible apply lm_sI); exact rfl)
    | ((with_reducible apply lm_sR); exact rfl)
    | ((with_reducible apply lm_sS); exact rfl; exact rfl)
    | ((with_reducible apply lm_sL); exact rfl)
    | ((with_reducible apply lm_sP); exact rfl; exact rfl)
    | ((with_reducible apply lm_sPL); exact rfl; exact rfl)
    | ((with_reducible apply lm_sAA); exact rfl; exact rfl)
    | ((with_reducible apply lm_sA); (first | exact rfl | assumption); omega)
    | ((with_reducible apply lm_sJ); (first | exact rfl | assumption); omega)
    | ((with_reducible apply lm_sB); (first | exact rfl | assumption); omega)
    | ((with_reducible apply lm_wA); (first | exact rfl | assumption); omega)
    | ((with_reducible apply lm_wJ); (first | exact rfl | assumption); omega)
    | ((with_reducible apply lm_wB); (first | exact rfl | assumption); omega)
    | ((with_reducible apply lm_sAl); (first | exact rfl | assumption); omega)
    | ((with_reducible apply lm_iW); decide))
    refine lm_cV c2 ?_
    rw [lm_K1, lm_oo]
    exact K) (lm_dk s) 0 (by omega) m n ⟨rfl, fun _ _ _ => rfl, fun _ _ => rfl, h24, hP⟩
  subst en
  exact ⟨m', h1, h2, h4, k1⟩
/-- the bytes put together -/
theorem lm_l28h (hs : s ≤ 2) (h : lm_RD C s m n) (hK : ∀ i, i < 128 → lm_b8 (m 263 i) = lm_b8 (K i)) (hB : ∀ j, j < 320 * lm_dk s → lm_yb (m 328 j) = lm_pkB (fun i c => ((lm_tH (lm_xR C K s i c) : Nat) : Int)) 10 j) (hA : ∀ j, j < lm_dss s - 128 → lm_yb (m 327 j) = lm_xsec C K s (128 + j)) : ∃ m' n', lm_rn sc (d + 6) lm_m28.2.2.2.2.1 (lm_reg lm_m28.2.2.2.2.2) (499, [(0, .ref 203), (5, .int (Int32.ofNat (lm_dk s)))], []) (lm_w m n x) = some (.ok (some (.int (Int32.ofNat (lm_dss s)))), lm_w m' n' x) ∧ (∀ r, r ≠ 203 → r ≠ 207 → r ≠ 208 → r ≠ 214 → r ≠ 227 → m' r = m r) ∧ lm_fB m n m' n' ∧ (∀ j, j ≠ 1 → j ≠ 2 → m' 214 j = m 214 j) ∧ m' 214 1 = Int32.ofNat (32 + 320 * lm_dk s) ∧ m' 214 2 = Int32.ofNat (lm_dss s) ∧ (∀ j, j < 32 + 320 * lm_dk s → lm_yb (m' 207 j) = lm_xpub C K s j) ∧ ∀ j, j < lm_dss s → lm_yb (m' 208 j) = lm_xsec C K s j := by
  have hkl := lm_dkl hs
  have hsz := lm_xsz s hs
  have hb1 := lm_xb1_ge s
  generalize ek : lm_dk s = k at *
  generalize eD : lm_dss s = D at *
  have c1 := lm_u75 (sc := sc) (d := d + 5) (m := m) (n := n) (x := x) (q := 263) (p := 207) (v := 256) (w := 65536) (a := 0) (b := 0) (l := 32) rfl rfl (by decide) (by decide) (by decide) (by decide) (by decide)
  generalize eM1 : lm_fil m 207 0 (0 + 32) (fun i => lm_b8 (m 263 (0 + (i - 0)))) = M1 at c1
  have r1 : ∀ r, r ≠ 207 → M1 r = m r := fun r hr => by rw [← eM1, lm_fl_row hr]
  have c2 := lm_u75 (sc := sc) (d := d + 5) (m := M1) (n := n) (x := x) (q := 328) (p := 207) (v := 8192) (w := 65536) (a := 0) (b := 32) (l := 320 * k) rfl rfl (by decide) (by omega) (by omega) (by decide) (by decide)
  generalize eM2 : lm_fil M1 207 32 (32 + 320 * k) (fun i => lm_b8 (M1 328 (0 + (i - 32)))) = M2 at c2
  have r2 : ∀ r, r ≠ 207 → M2 r = m r := fun r hr => by rw [← eM2, lm_fl_row hr, r1 r hr]
  have v2 : ∀ j, j < 32 + 320 * k → lm_yb (M2 207 j) = lm_xpub C K s j := fun j hj => by
    unfold lm_xpub
    by_cases c : j < 32
    · rw [if_pos c, ← eM2, lm_fl_out (by omega), ← eM1, lm_fl_in (by omega), lm_yb_b8, Nat.zero_add, Nat.sub_zero]
      exact lm_b8_ne (hK _ (by omega))
    · rw [if_neg c, ← eM2, lm_fl_in (by omega), lm_yb_b8, Nat.zero_add, r1 328 (by decide)]
      exact hB (j - 32) (by omega)
  generalize eM3 : lm_u M2 214 1 (Int32.ofNat (32 + 320 * k)) = M3
  have r3 : ∀ r, r ≠ 207 → r ≠ 214 → M3 r = m r := fun r q1 q2 => by rw [← eM3, lm_u_row q2, r2 r q1]
  have c4 := lm_u75 (sc := sc) (d := d + 5) (m := M3) (n := n) (x := x) (q := 263) (p := 208) (v := 256) (w := 65536) (a := 0) (b := 0) (l := 32) rfl rfl (by decide) (by decide) (by decide) (by decide) (by decide)
  generalize eM4 : lm_fil M3 208 0 (0 + 32) (fun i => lm_b8 (M3 263 (0 + (i - 0)))) = M4 at c4
  have r4 : ∀ r, r ≠ 208 → M4 r = M3 r := fun r hr => by rw [← eM4, lm_fl_row hr]
  have c5 := lm_u75 (sc := sc) (d := d + 5) (m := M4) (n := n) (x := x) (q := 263) (p := 208) (v := 256) (w := 65536) (a := 96) (b := 32) (l := 32) rfl rfl (by decide) (by decide) (by decide) (by decide) (by decide)
  generalize eM5 : lm_fil M4 208 32 (32 + 32) (fun i => lm_b8 (M4 263 (96 + (i - 32)))) = M5 at c5
  have r5 : ∀ r, r ≠ 208 → M5 r = M3 r := fun r hr => by rw [← eM5, lm_fl_row hr, r4 r hr]
  have f5 : M5 203 = m 203 := by rw [r5 203 (by decide), r3 203 (by decide) (by decide)]
  have B5 : lm_fB m n M5 n := .of f5
  have C5 : lm_cx M5 n = C := (B5.cx (by rw [r5 221 (by decide), r3 221 (by decide) (by decide)])).trans h.1
  have e207 : M5 207 = M2 207 := by rw [r5 207 (by decide), ← eM3, lm_u_row (by decide)]
  have e214 : M5 214 1 = Int32.ofNat (32 + 320 * k) := by rw [r5 214 (by decide), ← eM3, lm_u_eq]
  obtain ⟨m6, n6, c6, s6, f6⟩ := lm_rS (sc := sc) (d := d + 4) (x := x) (k := 12) (G := ln_gp (lm_xpub C K s)) C5 (by decide) (by decide)
  have C6 := f6.cx.trans C5
  obtain ⟨m7, n7, c7, s7, f7⟩ := lm_rA (sc := sc) (d := d + 2) (x := x) (k := 12) (q := 207) (v := 65536) (a := 0) (l := 32 + 320 * k) (L := 0) (G := ln_gp (lm_xpub C K s)) C6 (by decide) (by decide) rfl (by omega) (by decide) (fun t ht => by
    rw [f6.1 207 (by decide) (by decide), e207, Nat.zero_add]
    exact lm_gp_yb (v2 t ht) lm_xpub_lt) s6
  have C7 := f7.cx.trans C6
  rw [Nat.zero_add] at s7
  obtain ⟨m8, n8, c8, f8⟩ := lm_rG (sc := sc) (d := d + 1) (x := x) (k := 12) (q := 208) (v := 65536) (a := 64) (l := 64) C7 (by decide) (by decide) rfl (by omega) (by decide) (fun h => absurd h (by decide)) s7
  have fh : lm_fh M5 n m8 n8 := f6.tr (f7.tr f8)
  generalize eM9 : lm_fil m8 208 64 (64 + 64) (fun i => lm_Hm C 12 (ln_gp (lm_xpub C K s)) (32 + 320 * k) (i - 64)) = M9 at c8
  have r9 : ∀ r, r ≠ 208 → M9 r = m8 r := fun r hr => by rw [← eM9, lm_fl_row hr]
  have q9 : ∀ j, j ≠ 18 → j ≠ 19 → j ≠ 20 → M9 203 j = m 203 j := fun j j1 j2 j3 => by rw [r9 203 (by decide), fh.2.1 j j1 j2 j3, f5]
  have c10 := lm_u94' (sc := sc) (d := d + 5) (m := M9) (n := n8) (x := x) hs (by rw [q9 32 (by decide) (by decide) (by decide)]; exact h.2.1) (by rw [q9 42 (by decide) (by decide) (by decide)]; exact h.2.2.1) (by rw [q9 43 (by decide) (by decide) (by decide)]; exact h.2.2.2.1)
  rw [eD] at c10
  generalize eM10 : lm_u M9 214 2 (Int32.ofNat D) = M10
  have r10 : ∀ r, r ≠ 214 → M10 r = M9 r := fun r hr => by rw [← eM10, lm_u_row hr]
  have e2 : M10 214 2 = Int32.ofNat D := by rw [← eM10, lm_u_eq]
  have c11 := lm_u75 (sc := sc) (d := d + 5) (m := M10) (n := n8) (x := x) (q := 327) (p := 208) (v := 16384) (w := 65536) (a := 0) (b := 128) (l := D - 128) rfl rfl (by decide) (by omega) (by omega) (by decide) (by decide)
  generalize eM11 : lm_fil M10 208 128 (128 + (D - 128)) (fun i => lm_b8 (M10 327 (0 + (i - 128)))) = M11 at c11
  have r11 : ∀ r, r ≠ 208 → M11 r = M10 r := fun r hr => by rw [← eM11, lm_fl_row hr]
  have frA : ∀ r, r ≠ 203 → r ≠ 207 → r ≠ 208 → r ≠ 214 → r ≠ 227 → M11 r = m r := fun r q1 q2 q3 q4 q5 => by rw [r11 r q3, r10 r q4, r9 r q3, fh.1 r q1 q5, r5 r q3, r3 r q2 q4]
  have e263 : M3 263 = m 263 := r3 263 (by decide) (by decide)
  have g214 : M9 214 = M3 214 := by rw [r9 214 (by decide), fh.1 214 (by decide) (by decide), r5 214 (by decide)]
  refine ⟨M11, n8, ?_, frA, ?_, fun j j1 j2 => ?_, ?_, by rw [r11 214 (by decide)]; exact e2, fun j hj => ?_, fun j hj => ?_⟩
  rotate_left
  · refine B5.tr (fh.G.B.tr (.of ?_))
    rw [r11 203 (by decide), r10 203 (by decide), r9 203 (by decide)]
  · rw [r11 214 (by decide), ← eM10, lm_u_ne (fun g => j2 g.2), g214, ← eM3, lm_u_ne (fun g => j1 g.2), r2 214 (by decide)]
  · rw [r11 214 (by decide), ← eM10, lm_u_ne (by decide), g214, ← eM3, lm_u_eq]
  · rw [r11 207 (by decide), r10 207 (by decide), r9 207 (by decide), fh.1 207 (by decide) (by decide), e207]
    exact v2 j hj
  · by_cases q1 : 128 ≤ j
    · rw [← eM11, lm_fl_in (by omega), lm_yb_b8, Nat.zero_add, r10 327 (by decide), r9 327 (by decide), fh.1 327 (by decide) (by decide), r5 327 (by decide), r3 327 (by decide) (by decide), hA (j - 128) (by omega), show 128 + (j - 128) = j by omega]
    · rw [← eM11, lm_fl_out (by omega), r10 208 (by decide)]
      unfold lm_xsec
      by_cases q2 : 64 ≤ j
      · rw [if_neg (by omega), if_neg (by omega), if_pos (by omega), ← eM9, lm_fl_in (by omega)]
        unfold lm_xH
        rw [ek]
        rfl
      · rw [← eM9, lm_fl_out (by omega), fh.1 208 (by decide) (by decide)]
        by_cases q3 : 32 ≤ j
        · rw [if_neg (by omega), if_pos (by omega), ← eM5, lm_fl_in (by omega), lm_yb_b8, r4 263 (by decide), e263, show 96 + (j - 32) = 64 + j by omega]
          exact lm_b8_ne (hK _ (by omega))
        · rw [if_pos (by omega), ← eM5, lm_fl_out (by omega), ← eM4, lm_fl_in (by omega), lm_yb_b8, e263, Nat.zero_add, Nat.sub_zero]
          exact lm_b8_ne (hK _ (by omega))
  · clear hA hB v2 s6 s7
    refine lm_e28_499 ?_
    unfold lm_q28_499
    have e32 : ∀ M : lm_MI, M 203 = m 203 → M 203 32 = Int32.ofNat k := fun M g => by rw [g, ← ek]; exact h.2.1
    repeat (first
    | ((with_reducible apply lm_sI); exact rfl)
    | ((with_reducible apply lm_sR); exact rfl)
    | ((with_reducible apply lm_sS); exact rfl; exact rfl)
    | ((with_reducible apply lm_sL); exact rfl)
    | ((with_reducible apply lm_sP); exact rfl; exact rfl)
    | ((with_reducible apply lm_sPL); exact rfl; exact rfl)
    | ((with_reducible apply lm_sAA); exact rfl; exact rfl)
    | ((with_reducible apply lm_sA); (first | exact rfl | assumption); omega)
    | ((with_reducible apply lm_sJ); (first | exact rfl | assumption); omega)
    | ((with_reducible apply lm_sB); (first | exact rfl | assumption); omega)
    | ((with_reducible apply lm_wA); (first | exact rfl | assumption); omega)
    | ((with_reducible apply lm_wJ); (first | exact rfl | assumption); omega)
    | ((with_reducible apply lm_wB); (first | exact rfl | assumption); omega)
    | ((with_reducible apply lm_sAl); (first | exact rfl | assumption); omega)
    | ((with_reducible apply lm_iW); decide))
    simp only [Nat.reduceDiv, Nat.reduceMod]
    rw [e32 m rfl]
    refine lm_geT (by omega) (by omega) (by omega) ?_
    rw [lm_K0, lm_K32, lm_K1, lm_K2, lm_K12, lm_K64, lm_K96, lm_K128, show Int32.ofInt 320 = Int32.ofNat 320 from rfl]
    repeat (first
    | ((with_reducible apply lm_sI); exact rfl)
    | ((with_reducible apply lm_sR); exact rfl)
    | ((with_reducible apply lm_sS); exact rfl; exact rfl)
    | ((with_reducible apply lm_sL); exact rfl)
    | ((with_reducible apply lm_sP); exact rfl; exact rfl)
    | ((with_reducible apply lm_sPL); exact rfl; exact rfl)
    | ((with_reducible apply lm_sAA); exact rfl; exact rfl)
    | ((with_reducible apply lm_sA); (first | exact rfl | assumption); omega)
    | ((with_reducible apply lm_sJ); (first | exact rfl | assumption); omega)
    | ((with_reducible apply lm_sB); (first | exact rfl | assumption); omega)
    | ((with_reducible apply lm_wA); (first | exact rfl | assumption); omega)
    | ((with_reducible apply lm_wJ); (first | exact rfl | assumption); omega)
    | ((with_reducible apply lm_wB); (first | exact rfl | assumption); omega)
    | ((with_reducible apply lm_sAl); (first | exact rfl | assumption); omega)
    | ((with_reducible apply lm_iW); decide))
    refine lm_cV c1 ?_
    repeat (first
    | ((with_reducible apply lm_sI); exact rfl)
    | ((with_reducible apply lm_sR); exact rfl)
    | ((with_reducible apply lm_sS); exact rfl; exact rfl)
    | ((with_reducible apply lm_sL); exact rfl)
    | ((with_reducible apply lm_sP); exact rfl; exact rfl)
    | ((with_reducible apply lm_sPL); exact rfl; exact rfl)
    | ((with_reducible apply lm_sAA); exact rfl; exact rfl)
    | ((with_reducible apply lm_sA); (first | exact rfl | assumption); omega)
    | ((with_reducible apply lm_sJ); (first | exact rfl | assumption); omega)
    | ((with_reducible apply lm_sB); (first | exact rfl | assumption); omega)
    | ((with_reducible apply lm_wA); (first | exact rfl | assumption); omega)
    | ((with_reducible apply lm_wJ); (first | exact rfl | assumption); omega)
    | ((with_reducible apply lm_wB); (first | exact rfl | assumption); omega)
    | ((with_reducible apply lm_sAl); (first | exact rfl | assumption); omega)
    | ((with_reducible apply lm_iW); decide))
    simp only [Nat.reduceDiv, Nat.reduceMod]
    rw [e32 M1 (r1 203 (by decide)), lm_om]
    refine lm_cV c2 ?_
    repeat (first
    | ((with_reducible apply lm_sI); exact rfl)
    | ((with_reducible apply lm_sR); exact rfl)
    | ((with_reducible apply lm_sS); exact rfl; exact rfl)
    | ((with_reducible apply lm_sL); exact rfl)
    | ((with_reducible apply lm_sP); exact rfl; exact rfl)
    | ((with_reducible apply lm_sPL); exact rfl; exact rfl)
    | ((with_reducible apply lm_sAA); exact rfl; exact rfl)
    | ((with_reducible apply lm_sA); (first | exact rfl | assumption); omega)
    | ((with_reducible apply lm_sJ); (first | exact rfl | assumption); omega)
    | ((with_reducible apply lm_sB); (first | exact rfl | assumption); omega)
    | ((with_reducible apply lm_wA); (first | exact rfl | assumption); omega)
    | ((with_reducible apply lm_wJ); (first | exact rfl | assumption); omega)
    | ((with_reducible apply lm_wB); (first | exact rfl | assumption); omega)
    | ((with_reducible apply lm_sAl); (first | exact rfl | assumption); omega)
    | ((with_reducible apply lm_iW); decide))
    simp only [Nat.reduceDiv, Nat.reduceMod]
    rw [e32 M2 (r2 203 (by decide)), lm_om, lm_oo]
    repeat (first
    | ((with_reducible apply lm_sI); exact rfl)
    | ((with_reducible apply lm_sR); exact rfl)
    | ((with_reducible apply lm_sS); exact rfl; exact rfl)
    | ((with_reducible apply lm_sL); exact rfl)
    | ((with_reducible apply lm_sP); exact rfl; exact rfl)
    | ((with_reducible apply lm_sPL); exact rfl; exact rfl)
    | ((with_reducible apply lm_sAA); exact rfl; exact rfl)
    | ((with_reducible apply lm_sA); (first | exact rfl | assumption); omega)
    | ((with_reducible apply lm_sJ); (first | exact rfl | assumption); omega)
    | ((with_reducible apply lm_sB); (first | exact rfl | assumption); omega)
    | ((with_reducible apply lm_wA); (first | exact rfl | assumption); omega)
    | ((with_reducible apply lm_wJ); (first | exact rfl | assumption); omega)
    | ((with_reducible apply lm_wB); (first | exact rfl | assumption); omega)
    | ((with_reducible apply lm_sAl); (first | exact rfl | assumption); omega)
    | ((with_reducible apply lm_iW); decide))
    rw [eM3]
    refine lm_cV c4 ?_
    repeat (first
    | ((with_reducible apply lm_sI); exact rfl)
    | ((with_reducible apply lm_sR); exact rfl)
    | ((with_reducible apply lm_sS); exact rfl; exact rfl)
    | ((with_reducible apply lm_sL); exact rfl)
    | ((with_reducible apply lm_sP); exact rfl; exact rfl)
    | ((with_reducible apply lm_sPL); exact rfl; exact rfl)
    | ((with_reducible apply lm_sAA); exact rfl; exact rfl)
    | ((with_reducible apply lm_sA); (first | exact rfl | assumption); omega)
    | ((with_reducible apply lm_sJ); (first | exact rfl | assumption); omega)
    | ((with_reducible apply lm_sB); (first | exact rfl | assumption); omega)
    | ((with_reducible apply lm_wA); (first | exact rfl | assumption); omega)
    | ((with_reducible apply lm_wJ); (first | exact rfl | assumption); omega)
    | ((with_reducible apply lm_wB); (first | exact rfl | assumption); omega)
    | ((with_reducible apply lm_sAl); (first | exact rfl | assumption); omega)
    | ((with_reducible apply lm_iW); decide))
    refine lm_cV c5 ?_
    repeat (first
    | ((with_reducible apply lm_sI); exact rfl)
    | ((with_reducible apply lm_sR); exact rfl)
    | ((with_reducible apply lm_sS); exact rfl; exact rfl)
    | ((with_reducible apply lm_sL); exact rfl)
    | ((with_reducible apply lm_sP); exact rfl; exact rfl)
    | ((with_reducible apply lm_sPL); exact rfl; exact rfl)
    | ((with_reducible apply lm_sAA); exact rfl; exact rfl)
    | ((with_reducible apply lm_sA); (first | exact rfl | assumption); omega)
    | ((with_reducible apply lm_sJ); (first | exact rfl | assumption); omega)
    | ((with_reducible apply lm_sB); (first | exact rfl | assumption); omega)
    | ((with_reducible apply lm_wA); (first | exact rfl | assumption); omega)
    | ((with_reducible apply lm_wJ); (first | exact rfl | assumption); omega)
    | ((with_reducible apply lm_wB); (first | exact rfl | assumption); omega)
    | ((with_reducible apply lm_sAl); (first | exact rfl | assumption); omega)
    | ((with_reducible apply lm_iW); decide))
    refine lm_cV c6 ?_
    repeat (first
    | ((with_reducible apply lm_sI); exact rfl)
    | ((with_reducible apply lm_sR); exact rfl)
    | ((with_reducible apply lm_sS); exact rfl; exact rfl)
    | ((with_reducible apply lm_sL); exact rfl)
    | ((with_reducible apply lm_sP); exact rfl; exact rfl)
    | ((with_reducible apply lm_sPL); exact rfl; exact rfl)
    | ((with_reducible apply lm_sAA); exact rfl; exact rfl)
    | ((with_reducible apply lm_sA); (first | exact rfl | assumption); omega)
    | ((with_reducible apply lm_sJ); (first | exact rfl | assumption); omega)
    | ((with_reducible apply lm_sB); (first | exact rfl | assumption); omega)
    | ((with_reducible apply lm_wA); (first | exact rfl | assumption); omega)
    | ((with_reducible apply lm_wJ); (first | exact rfl | assumption); omega)
    | ((with_reducible apply lm_wB); (first | exact rfl | assumption); omega)
    | ((with_reducible apply lm_sAl); (first | exact rfl | assumption); omega)
    | ((with_reducible apply lm_iW); decide))
    rw [f6.1 214 (by decide) (by decide), e214]
    refine lm_cV c7 ?_
    repeat (first
    | ((with_reducible apply lm_sI); exact rfl)
    | ((with_reducible apply lm_sR); exact rfl)
    | ((with_reducible apply lm_sS); exact rfl; exact rfl)
    | ((with_reducible apply lm_sL); exact rfl)
    | ((with_reducible apply lm_sP); exact rfl; exact rfl)
    | ((with_reducible apply lm_sPL); exact rfl; exact rfl)
    | ((with_reducible apply lm_sAA); exact rfl; exact rfl)
    | ((with_reducible apply lm_sA); (first | exact rfl | assumption); omega)
    | ((with_reducible apply lm_sJ); (first | exact rfl | assumption); omega)
    | ((with_reducible apply lm_sB); (first | exact rfl | assumption); omega)
    | ((with_reducible apply lm_wA); (first | exact rfl | assumption); omega)
    | ((with_reducible apply lm_wJ); (first | exact rfl | assumption); omega)
    | ((with_reducible apply lm_wB); (first | exact rfl | assumption); omega)
    | ((with_reducible apply lm_sAl); (first | exact rfl | assumption); omega)
    | ((with_reducible apply lm_iW); decide))
    refine lm_cV c8 ?_
    repeat (first
    | ((with_reducible apply lm_sI); exact rfl)
    | ((with_reducible apply lm_sR); exact rfl)
    | ((with_reducible apply lm_sS); exact rfl; exact rfl)
    | ((with_reducible apply lm_sL); exact rfl)
    | ((with_reducible apply lm_sP); exact rfl; exact rfl)
    | ((with_reducible apply lm_sPL); exact rfl; exact rfl)
    | ((with_reducible apply lm_sAA); exact rfl; exact rfl)
    | ((with_reducible apply lm_sA); (first | exact rfl | assumption); omega)
    | ((with_reducible apply lm_sJ); (first | exact rfl | assumption); omega)
    | ((with_reducible apply lm_sB); (first | exact rfl | assumption); omega)
    | ((with_reducible apply lm_wA); (first | exact rfl | assumption); omega)
    | ((with_reducible apply lm_wJ); (first | exact rfl | assumption); omega)
    | ((with_reducible apply lm_wB); (first | exact rfl | assumption); omega)
    | ((with_reducible apply lm_sAl); (first | exact rfl | assumption); omega)
    | ((with_reducible apply lm_iW); decide))
    refine lm_cI c10 ?_
    repeat (first
    | ((with_reducible apply lm_sI); exact rfl)
    | ((with_reducible apply lm_sR); exact rfl)
    | ((with_reducible apply lm_sS); exact rfl; exact rfl)
    | ((with_reducible apply lm_sL); exact rfl)
    | ((with_reducible apply lm_sP); exact rfl; exact rfl)
    | ((with_reducible apply lm_sPL); exact rfl; exact rfl)
    | ((with_reducible apply lm_sAA); exact rfl; exact rfl)
    | ((with_reducible apply lm_sA); (first | exact rfl | assumption); omega)
    | ((with_reducible apply lm_sJ); (first | exact rfl | assumption); omega)
    | ((with_reducible apply lm_sB); (first | exact rfl | assumption); omega)
    | ((with_reducible apply lm_wA); (first | exact rfl | assumption); omega)
    | ((with_reducible apply lm_wJ); (first | exact rfl | assumption); omega)
    | ((with_reducible apply lm_wB); (first | exact rfl | assumption); omega)
    | ((with_reducible apply lm_sAl); (first | exact rfl | assumption); omega)
    | ((with_reducible apply lm_iW); decide))
    rw [eM10, e2, lm_osu (by omega)]
    refine lm_cV c11 ?_
    repeat (first
    | ((with_reducible apply lm_sI); exact rfl)
    | ((with_reducible apply lm_sR); exact rfl)
    | ((with_reducible apply lm_sS); exact rfl; exact rfl)
    | ((with_reducible apply lm_sL); exact rfl)
    | ((with_reducible apply lm_sP); exact rfl; exact rfl)
    | ((with_reducible apply lm_sPL); exact rfl; exact rfl)
    | ((with_reducible apply lm_sAA); exact rfl; exact rfl)
    | ((with_reducible apply lm_sA); (first | exact rfl | assumption); omega)
    | ((with_reducible apply lm_sJ); (first | exact rfl | assumption); omega)
    | ((with_reducible apply lm_sB); (first | exact rfl | assumption); omega)
    | ((with_reducible apply lm_wA); (first | exact rfl | assumption); omega)
    | ((with_reducible apply lm_wJ); (first | exact rfl | assumption); omega)
    | ((with_reducible apply lm_wB); (first | exact rfl | assumption); omega)
    | ((with_reducible apply lm_sAl); (first | exact rfl | assumption); omega)
    | ((with_reducible apply lm_iW); decide))
    rw [r11 214 (by decide), e2]
    rfl
end LMRO
