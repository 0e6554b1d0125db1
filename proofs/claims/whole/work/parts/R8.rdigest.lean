/-! ===== SLH of the reference: the digest that chooses ===== -/
section LMUE
variable {sc : lm_H} {C : lm_CX} {d s kk xl ml q v : Nat} {m m' : lm_MI} {n n' : lm_ML} {x : lm_H × Nat × Nat} {D Rb QR Sg X Mg : Nat → Int32}
theorem lm_u115 (hs : s ≤ 11) (h : lm_RF m s) (hD : ∀ t, t < lm_fb s + lm_tB s + lm_lb s → lm_b8 (m 356 t) = D t) : lm_cal sc (d + 1) 115 [.ref 203] (lm_w m n x) = some (.ok (some (.long (Int64.ofNat (lm_ctn s D)))), lm_w m n x) := by
  have hpar := lm_spar s hs
  have h2 := lm_spar2 s hs
  have h3 := lm_tbs_b s hs
  obtain ⟨b1, b2, b3, b4⟩ := lm_fbn hs
  have lp : ∀ k c, c + k = lm_tB s → lm_rn sc d lm_m115.2.2.2.2.1 (lm_reg lm_m115.2.2.2.2.2) (37, [(0, .ref 203), (1, .int (Int32.ofNat (lm_fb s))), (2, .int (Int32.ofNat (lm_tB s))), (3, .long (Int64.ofNat (lm_bnm D (lm_fb s) c))), (5, .int (Int32.ofNat c))], []) (lm_w m n x) = some (.ok (some (.long (Int64.ofNat (lm_ctn s D)))), lm_w m n x) := by
    intro k
    induction k with
    | zero =>
      intro c hc
      have hc : c = lm_tB s := hc
      subst hc
      have hb := lm_bnm_lt (D := D) (p := lm_fb s) (lm_tB s)
      have hb2 : 256 ^ lm_tB s ≤ 256 ^ 8 := Nat.pow_le_pow_right (by decide) h2.2.1
      have hb3 : lm_bnm D (lm_fb s) (lm_tB s) < 18446744073709551616 := Nat.lt_of_lt_of_le hb hb2
      refine lm_e115_37 ?_
      unfold lm_q115_37
      refine lm_geT (by omega) (by omega) (Nat.le_refl _) ?_
      rw [lm_K64]
      repeat (first
    | ((with_reducible apply lm_sI); exact rfl)
    | ((with_reducible apply lm_sR); exact rfl)
    | ((with_reducible apply lm_sS); exact rfl; exact rfl)
    | ((with_reducible apply lm_sL); exact rfl)
    | ((with_reducible apply lm_sP); exact rfl; exact rfl)
    | ((with_reducible apply lm_sPL); exact rfl; exact rfl)
    | ((with_reducible apply lm_sAA); exact rfl; exact rfl)
    | ((with_reducible apply lm_sA); (first | exact rfl | assumption); omega)
    | ((with_reducible apply lm_sJ); (first | exact rfl | assumption); omega)
    | ((with_reducible apply lm_sB); (first | exact rfl | assumption); omega)
    | ((with_reducible apply lm_wA); (first | exact rfl | assumption); omega)
    | ((with_reducible apply lm_wJ); (first | exact rfl | assumption); omega)
    | ((with_reducible apply lm_wB); (first | exact rfl | assumption); omega)
    | ((with_reducible apply lm_sAl); (first | exact rfl | assumption); omega)
    | ((with_reducible apply lm_iW); decide))
      simp only [Nat.reduceDiv, Nat.reduceMod]
      rw [h.2.1, h.2.2.2.1, b4]
      by_cases c : lm_tbs s = 64
      · have ec : lm_ctn s D = lm_bnm D (lm_fb s) (lm_tB s) := by
          unfold lm_ctn
          rw [c]
          exact Nat.mod_eq_of_lt hb3
        rw [ec]
        exact lm_neF (by omega) (by omega) (fun g => g c) rfl
      · refine lm_neT (by omega) (by omega) c ?_
        repeat (first
    | ((with_reducible apply lm_sI); exact rfl)
    | ((with_reducible apply lm_sR); exact rfl)
    | ((with_reducible apply lm_sS); exact rfl; exact rfl)
    | ((with_reducible apply lm_sL); exact rfl)
    | ((with_reducible apply lm_sP); exact rfl; exact rfl)
    | ((with_reducible apply lm_sPL); exact rfl; exact rfl)
    | ((with_reducible apply lm_sAA); exact rfl; exact rfl)
    | ((with_reducible apply lm_sA); (first | exact rfl | assumption); omega)
    | ((with_reducible apply lm_sJ); (first | exact rfl | assumption); omega)
    | ((with_reducible apply lm_sB); (first | exact rfl | assumption); omega)
    | ((with_reducible apply lm_wA); (first | exact rfl | assumption); omega)
    | ((with_reducible apply lm_wJ); (first | exact rfl | assumption); omega)
    | ((with_reducible apply lm_wB); (first | exact rfl | assumption); omega)
    | ((with_reducible apply lm_sAl); (first | exact rfl | assumption); omega)
    | ((with_reducible apply lm_iW); decide))
        simp only [Nat.reduceDiv, Nat.reduceMod]
        rw [h.2.1, h.2.2.2.1, b4, lm_msk6 (by omega), lm_and6 hb3 (by omega)]
        exact rfl
    | succ k ih =>
      intro c hc
      have hb := lm_bnm_lt (D := D) (p := lm_fb s) c
      have hb2 : 256 ^ c ≤ 256 ^ 7 := Nat.pow_le_pow_right (by decide) (by omega)
      have hb3 : lm_bnm D (lm_fb s) c < 72057594037927936 := Nat.lt_of_lt_of_le hb hb2
      have hy := lm_yb_lt (m 356 (lm_fb s + c))
      have ey : lm_yb (m 356 (lm_fb s + c)) = lm_yb (D (lm_fb s + c)) := by rw [← hD _ (by omega), lm_yb_b8]
      refine lm_e115_37 ?_
      unfold lm_q115_37
      rw [show Int32.ofInt 8 = Int32.ofNat 8 from rfl, lm_K1, lm_oo, lm_oo]
      refine lm_geF (by omega) (by omega) (by omega) ?_
      repeat (first
    | ((with_reducible apply lm_sI); exact rfl)
    | ((with_reducible apply lm_sR); exact rfl)
    | ((with_reducible apply lm_sS); exact rfl; exact rfl)
    | ((with_reducible apply lm_sL); exact rfl)
    | ((with_reducible apply lm_sP); exact rfl; exact rfl)
    | ((with_reducible apply lm_sPL); exact rfl; exact rfl)
    | ((with_reducible apply lm_sAA); exact rfl; exact rfl)
    | ((with_reducible apply lm_sA); (first | exact rfl | assumption); omega)
    | ((with_reducible apply lm_sJ); (first | exact rfl | assumption); omega)
    | ((with_reducible apply lm_sB); (first | exact rfl | assumption); omega)
    | ((with_reducible apply lm_wA); (first | exact rfl | assumption); omega)
    | ((with_reducible apply lm_wJ); (first | exact rfl | assumption); omega)
    | ((with_reducible apply lm_wB); (first | exact rfl | assumption); omega)
    | ((with_reducible apply lm_sAl); (first | exact rfl | assumption); omega)
    | ((with_reducible apply lm_iW); decide))
      rw [lm_b8uL, lm_orL hy (by omega), ey]
      exact ih (c + 1) (by omega)
  have l0 := lp (lm_tB s) 0 (Nat.zero_add _)
  refine lm_cal_of (Y := lm_m115) rfl rfl (lm_e115_0 ?_)
  unfold lm_q115_0
  rw [lm_K0]
  repeat (first
    | ((with_reducible apply lm_sI); exact rfl)
    | ((with_reducible apply lm_sR); exact rfl)
    | ((with_reducible apply lm_sS); exact rfl; exact rfl)
    | ((with_reducible apply lm_sL); exact rfl)
    | ((with_reducible apply lm_sP); exact rfl; exact rfl)
    | ((with_reducible apply lm_sPL); exact rfl; exact rfl)
    | ((with_reducible apply lm_sAA); exact rfl; exact rfl)
    | ((with_reducible apply lm_sA); (first | exact rfl | assumption); omega)
    | ((with_reducible apply lm_sJ); (first | exact rfl | assumption); omega)
    | ((with_reducible apply lm_sB); (first | exact rfl | assumption); omega)
    | ((with_reducible apply lm_wA); (first | exact rfl | assumption); omega)
    | ((with_reducible apply lm_wJ); (first | exact rfl | assumption); omega)
    | ((with_reducible apply lm_wB); (first | exact rfl | assumption); omega)
    | ((with_reducible apply lm_sAl); (first | exact rfl | assumption); omega)
    | ((with_reducible apply lm_iW); decide))
  simp only [Nat.reduceDiv, Nat.reduceMod]
  rw [h.2.2.2.2.2.1, h.2.2.2.2.1, h.2.1, h.2.2.2.1, b1, b2]
  exact l0
/-- what is signed, in the reference -/
def lm_Rsg (C : lm_CX) (kk xl ml : Nat) (Sg : Nat → Int32) (m : lm_MI) : Prop := ∃ X Mg : Nat → Int32, m 214 4 = Int32.ofNat xl ∧ m 214 3 = Int32.ofNat ml ∧ (∀ t, t < xl → lm_b8 (m 210 t) = lm_b8 (X t)) ∧ (∀ t, t < ml → lm_b8 (m 209 t) = lm_b8 (Mg t)) ∧ (∀ t, t < lm_sgl kk xl ml → Sg t = lm_sgn C kk X xl Mg ml t)
theorem lm_Rsg.keep (h : lm_Rsg C kk xl ml Sg m) (e : ∀ r, r = 209 ∨ r = 210 ∨ r = 214 → m' r = m r) : lm_Rsg C kk xl ml Sg m' := by
  obtain ⟨X, Mg, a1, a2, a3, a4, a5⟩ := h
  exact ⟨X, Mg, by rw [e 214 (by decide)]; exact a1, by rw [e 214 (by decide)]; exact a2, by rw [e 210 (by decide)]; exact a3, by rw [e 209 (by decide)]; exact a4, a5⟩
theorem lm_lrg (hs : s ≤ 11) (c : ¬ s < 6) : (if lm_sn s = 16 then 1 else 3) = lm_wk s := by
  unfold lm_wk
  rw [if_neg c]
set_option maxRecDepth 100000 in
theorem lm_u114 (hC : lm_cx m n = C) (hs : s ≤ 11) (hF : lm_RF m s) (hk : kk ≤ 13) (hxk : kk = 0 ∨ xl ≤ 255) (hml : ml ≤ 65536) (hG : lm_Rsg C kk xl ml Sg m) (hq : lm_ar q = some (1, v)) (gq : q < 263 ∨ q = 265) (gq2 : q ≠ 203 ∧ q ≠ 221 ∧ q ≠ 227 ∧ q ≠ 228 ∧ q ≠ 229) (hqv : lm_sn s ≤ v) (hv : v ≤ 70000) (hR : ∀ t, t < lm_sn s → lm_b8 (m q t) = Rb t) (hP : ∀ t, t < lm_sn s → lm_b8 (m 358 t) = QR t) (hT : ∀ t, t < lm_sn s → lm_b8 (m 361 t) = QR (lm_sn s + t)) : ∃ m' n', lm_cal sc (d + 7) 114 [.ref 203, .ref q, .int (Int32.ofNat 0), .int (ln_kd kk)] (lm_w m n x) = some (.ok none, lm_w m' n' x) ∧ (∀ r, r ≠ 203 → r ≠ 227 → r ≠ 228 → r ≠ 229 → r ≠ 327 → r ≠ 329 → r ≠ 332 → r ≠ 356 → m' r = m r) ∧ lm_fG m n m' n' ∧ ∀ i, i < lm_fb s + lm_tB s + lm_lb s → lm_b8 (m' 356 i) = lm_plD C s Rb QR Sg (lm_sgl kk xl ml) i := by
  have hpar := lm_spar s hs
  have hp2 := lm_spar2 s hs
  obtain ⟨b1, b2, b3, b4⟩ := lm_fbn hs
  obtain ⟨X, Mg, a1, a2, a3, a4, a5⟩ := hG
  obtain ⟨m1, n1, c1, f1, g1, v1⟩ := lm_u111 (sc := sc) (d := d) (x := x) (m := m) (n := n) (Mg := Mg) hC hk a2 hml a4
  have C1 : lm_cx m1 n1 = C := (g1.cx (f1 221 (by decide) (by decide) (by decide))).trans hC
  have w3 := lm_wk3 (s := s)
  have wb := lm_k3_b w3
  unfold lm_plD
  have hY : ∀ t, lm_plY C s Rb QR Sg (lm_sgl kk xl ml) t = lm_b8 (lm_Hm C (lm_wk s) (lm_tri3 (lm_sn s) (2 * lm_sn s) Rb QR Sg) (lm_sn s + 2 * lm_sn s + lm_sgl kk xl ml) t) := fun _ => rfl
  generalize lm_plY C s Rb QR Sg (lm_sgl kk xl ml) = Yf at *
  have hwk : ¬ s < 6 → lm_wk s = 1 ∨ lm_wk s = 3 := lm_wk_f
  have hw12 : s < 6 → lm_wk s = 12 := fun c => by unfold lm_wk; rw [if_pos c]
  have hlg : ¬ s < 6 → (if lm_sn s = 16 then 1 else 3) = lm_wk s := lm_lrg hs
  generalize lm_wk s = k at *
  generalize eG : lm_tri3 (lm_sn s) (2 * lm_sn s) Rb QR Sg = G at *
  have G0 : ∀ t, t < lm_sn s → G t = Rb t := fun t ht => by rw [← eG]; exact lm_tri3_0 ht
  have G1 : ∀ t, t < lm_sn s → G (lm_sn s + t) = QR t := fun t ht => by rw [← eG]; exact lm_tri3_1 (by omega)
  have G1' : ∀ t, t < lm_sn s → G (lm_sn s + lm_sn s + t) = QR (lm_sn s + t) := fun t ht => by rw [← eG, Nat.add_assoc]; exact lm_tri3_1 (by omega)
  have G2 : ∀ t, G (lm_sn s + 2 * lm_sn s + t) = Sg t := fun t => by rw [← eG]; exact lm_tri3_2
  obtain ⟨m2, n2, c2, s2, f2⟩ := lm_rS (sc := sc) (d := d + 4) (x := x) (k := k) (G := G) C1 wb.1 wb.2
  have C2 : lm_cx m2 n2 = C := f2.cx.trans C1
  obtain ⟨m3, n3, c3, s3, f3⟩ := lm_rA (sc := sc) (d := d + 2) (x := x) (q := q) (v := v) (a := 0) (l := lm_sn s) (L := 0) C2 wb.2 ⟨gq2.1, gq2.2.2.1⟩ hq (by omega) hv (fun t ht => by rw [f2.1 q gq2.1 gq2.2.2.1, f1 q gq2.1 gq2.2.2.1 (by omega), Nat.zero_add, hR t ht, G0 t ht]) s2
  rw [Nat.zero_add] at s3
  have F3 := f2.tr f3
  have C3 : lm_cx m3 n3 = C := F3.cx.trans C1
  obtain ⟨m4, n4, c4, s4, f4⟩ := lm_rA (sc := sc) (d := d + 2) (x := x) (q := 358) (v := 32) (a := 0) (l := lm_sn s) C3 wb.2 (by decide) rfl (by omega) (by decide) (fun t ht => by rw [F3.1 358 (by decide) (by decide), f1 358 (by decide) (by decide) (by decide), Nat.zero_add, hP t ht, G1 t ht]) s3
  have F4 := F3.tr f4
  have C4 : lm_cx m4 n4 = C := F4.cx.trans C1
  obtain ⟨m5, n5, c5, s5, f5⟩ := lm_rA (sc := sc) (d := d + 2) (x := x) (q := 361) (v := 32) (a := 0) (l := lm_sn s) C4 wb.2 (by decide) rfl (by omega) (by decide) (fun t ht => by rw [F4.1 361 (by decide) (by decide), f1 361 (by decide) (by decide) (by decide), Nat.zero_add, hT t ht, G1' t ht]) s4
  rw [show lm_sn s + lm_sn s + lm_sn s = lm_sn s + 2 * lm_sn s by omega] at s5
  have F5 := F4.tr f5
  have C5 : lm_cx m5 n5 = C := F5.cx.trans C1
  have k1 : ∀ r, r ≠ 203 → r ≠ 227 → r ≠ 329 → m5 r = m r := fun r r1 r2 r3 => by rw [F5.1 r r1 r2, f1 r r1 r2 r3]
  obtain ⟨m6, n6, c6, s6, f6⟩ := lm_u113 (sc := sc) (d := d + 1) (x := x) (X := X) (Mg := Mg) C5 wb.2 hk hxk (by rw [k1 214 (by decide) (by decide) (by decide)]; exact a1) (by rw [k1 214 (by decide) (by decide) (by decide)]; exact a2) hml (by rw [k1 210 (by decide) (by decide) (by decide)]; exact a3) (by rw [k1 209 (by decide) (by decide) (by decide)]; exact a4) (fun h t ht => by rw [F5.1 329 (by decide) (by decide)]; exact v1 h t ht) (fun t ht => by rw [G2, a5 t ht]) s5
  have F6 := F5.tr f6
  have C6 : lm_cx m6 n6 = C := F6.cx.trans C1
  have FG6 : lm_fG m n m6 n6 := g1.tr F6.G
  have r6 : ∀ r, r ≠ 203 → r ≠ 227 → r ≠ 329 → m6 r = m r := fun r q1 q2 q3 => by rw [F6.1 r q1 q2, f1 r q1 q2 q3]
  have RF6 := FG6.RF hF
  have RF5 := (g1.tr F5.G).RF hF
  have RF4 := (g1.tr F4.G).RF hF
  have RF3 := (g1.tr F3.G).RF hF
  have RF2 := (g1.tr f2.G).RF hF
  have RF1 := g1.RF hF
  have run : ∀ R, (lm_bind (lm_gI 4699 203) fun v11 => lm_if .eq v11 0 (lm_bind (lm_sel [(11, 112)] (some (.ref 203))) fun y12 =>
  lm_bind (lm_asI (lm_cal sc (d + 6) y12 [.ref 203])) fun v13 =>
  lm_bind (lm_asI (lm_cal sc (d + 6) 60 [.int v13])) fun v14 =>
  lm_bind (lm_gR 4614 203) fun v15 =>
  lm_bind (lm_sel [(11, 63)] (some (.ref 203))) fun y16 =>
  lm_bind (lm_asV (lm_cal sc (d + 6) y16 [.ref 203, .ref v15, .int (Int32.ofNat 0), .int v14])) fun _ =>
  lm_bind (lm_gR 4562 203) fun v17 =>
  lm_bind (lm_gI 4668 203) fun v18 =>
  lm_bind (lm_asV (lm_cal sc (d + 6) 75 [.ref q, .int (Int32.ofNat 0), .ref v17, .int (Int32.ofNat 0), .int v18])) fun _ =>
  lm_bind (lm_gR 4654 203) fun v19 =>
  lm_bind (lm_gR 4562 203) fun v20 =>
  lm_bind (lm_gI 4668 203) fun v21 =>
  lm_bind (lm_gI 4668 203) fun v22 =>
  lm_bind (lm_asV (lm_cal sc (d + 6) 75 [.ref v19, .int (Int32.ofNat 0), .ref v20, .int v21, .int v22])) fun _ =>
  lm_bind (lm_gR 4614 203) fun v23 =>
  lm_bind (lm_gR 4562 203) fun v24 =>
  lm_bind (lm_gI 4668 203) fun v25 =>
  lm_bind (lm_asV (lm_cal sc (d + 6) 75 [.ref v23, .int (Int32.ofNat 0), .ref v24, .int ((Int32.ofNat 2) * v25), .int v14])) fun _ =>
  lm_bind (lm_sel [(11, 112)] (some (.ref 203))) fun y26 =>
  lm_bind (lm_asI (lm_cal sc (d + 6) y26 [.ref 203])) fun v27 =>
  lm_bind (lm_gR 4562 203) fun v28 =>
  lm_bind (lm_gI 4668 203) fun v29 =>
  lm_bind (lm_gR 4646 203) fun v30 =>
  lm_bind (lm_sel [(11, 66)] (some (.ref 203))) fun y31 =>
  lm_bind (lm_asV (lm_cal sc (d + 6) y31 [.ref 203, .int v27, .ref v28, .int (((Int32.ofNat 2) * v29) + v14), .ref v30, .int (Int32.ofNat 0), .int (Int32.ofNat (lm_fb s + lm_tB s + lm_lb s))])) fun _ =>
  lm_ret none) (lm_bind (lm_gR 4646 203) fun v32 =>
  lm_bind (lm_sel [(11, 63)] (some (.ref 203))) fun y33 =>
  lm_bind (lm_asV (lm_cal sc (d + 6) y33 [.ref 203, .ref v32, .int (Int32.ofNat 0), .int (Int32.ofNat (lm_fb s + lm_tB s + lm_lb s))])) fun _ =>
  lm_ret none)) (lm_w m6 n6 x) = some R → lm_cal sc (d + 7) 114 [.ref 203, .ref q, .int (Int32.ofNat 0), .int (ln_kd kk)] (lm_w m n x) = some R := by
    intro R KK
    clear G0 G1 G1' G2 hR hP hT hY a3 a4 a5 v1
    have e66 : lm_rn sc (d + 6) lm_m114.2.2.2.2.1 (lm_reg lm_m114.2.2.2.2.2) (66, [(0, .ref 203), (1, .ref q), (2, .int (Int32.ofNat 0)), (3, .int (ln_kd kk)), (4, .int (Int32.ofNat (lm_fb s + lm_tB s + lm_lb s)))], [.int (Int32.ofNat k), .ref 203]) (lm_w m1 n1 x) = some R := by
      refine lm_e114_66 ?_
      unfold lm_q114_66
      rw [lm_K0, lm_K2]
      repeat (first
    | ((with_reducible apply lm_sI); exact rfl)
    | ((with_reducible apply lm_sR); exact rfl)
    | ((with_reducible apply lm_sS); exact rfl; exact rfl)
    | ((with_reducible apply lm_sL); exact rfl)
    | ((with_reducible apply lm_sP); exact rfl; exact rfl)
    | ((with_reducible apply lm_sPL); exact rfl; exact rfl)
    | ((with_reducible apply lm_sAA); exact rfl; exact rfl)
    | ((with_reducible apply lm_sA); (first | exact rfl | assumption); omega)
    | ((with_reducible apply lm_sJ); (first | exact rfl | assumption); omega)
    | ((with_reducible apply lm_sB); (first | exact rfl | assumption); omega)
    | ((with_reducible apply lm_wA); (first | exact rfl | assumption); omega)
    | ((with_reducible apply lm_wJ); (first | exact rfl | assumption); omega)
    | ((with_reducible apply lm_wB); (first | exact rfl | assumption); omega)
    | ((with_reducible apply lm_sAl); (first | exact rfl | assumption); omega)
    | ((with_reducible apply lm_iW); decide))
      refine lm_cV c2 ?_
      repeat (first
    | ((with_reducible apply lm_sI); exact rfl)
    | ((with_reducible apply lm_sR); exact rfl)
    | ((with_reducible apply lm_sS); exact rfl; exact rfl)
    | ((with_reducible apply lm_sL); exact rfl)
    | ((with_reducible apply lm_sP); exact rfl; exact rfl)
    | ((with_reducible apply lm_sPL); exact rfl; exact rfl)
    | ((with_reducible apply lm_sAA); exact rfl; exact rfl)
    | ((with_reducible apply lm_sA); (first | exact rfl | assumption); omega)
    | ((with_reducible apply lm_sJ); (first | exact rfl | assumption); omega)
    | ((with_reducible apply lm_sB); (first | exact rfl | assumption); omega)
    | ((with_reducible apply lm_wA); (first | exact rfl | assumption); omega)
    | ((with_reducible apply lm_wJ); (first | exact rfl | assumption); omega)
    | ((with_reducible apply lm_wB); (first | exact rfl | assumption); omega)
    | ((with_reducible apply lm_sAl); (first | exact rfl | assumption); omega)
    | ((with_reducible apply lm_iW); decide))
      simp only [Nat.reduceDiv, Nat.reduceMod]
      rw [RF2.1]
      refine lm_cV c3 ?_
      repeat (first
    | ((with_reducible apply lm_sI); exact rfl)
    | ((with_reducible apply lm_sR); exact rfl)
    | ((with_reducible apply lm_sS); exact rfl; exact rfl)
    | ((with_reducible apply lm_sL); exact rfl)
    | ((with_reducible apply lm_sP); exact rfl; exact rfl)
    | ((with_reducible apply lm_sPL); exact rfl; exact rfl)
    | ((with_reducible apply lm_sAA); exact rfl; exact rfl)
    | ((with_reducible apply lm_sA); (first | exact rfl | assumption); omega)
    | ((with_reducible apply lm_sJ); (first | exact rfl | assumption); omega)
    | ((with_reducible apply lm_sB); (first | exact rfl | assumption); omega)
    | ((with_reducible apply lm_wA); (first | exact rfl | assumption); omega)
    | ((with_reducible apply lm_wJ); (first | exact rfl | assumption); omega)
    | ((with_reducible apply lm_wB); (first | exact rfl | assumption); omega)
    | ((with_reducible apply lm_sAl); (first | exact rfl | assumption); omega)
    | ((with_reducible apply lm_iW); decide))
      simp only [Nat.reduceDiv, Nat.reduceMod]
      rw [RF3.1]
      refine lm_cV c4 ?_
      repeat (first
    | ((with_reducible apply lm_sI); exact rfl)
    | ((with_reducible apply lm_sR); exact rfl)
    | ((with_reducible apply lm_sS); exact rfl; exact rfl)
    | ((with_reducible apply lm_sL); exact rfl)
    | ((with_reducible apply lm_sP); exact rfl; exact rfl)
    | ((with_reducible apply lm_sPL); exact rfl; exact rfl)
    | ((with_reducible apply lm_sAA); exact rfl; exact rfl)
    | ((with_reducible apply lm_sA); (first | exact rfl | assumption); omega)
    | ((with_reducible apply lm_sJ); (first | exact rfl | assumption); omega)
    | ((with_reducible apply lm_sB); (first | exact rfl | assumption); omega)
    | ((with_reducible apply lm_wA); (first | exact rfl | assumption); omega)
    | ((with_reducible apply lm_wJ); (first | exact rfl | assumption); omega)
    | ((with_reducible apply lm_wB); (first | exact rfl | assumption); omega)
    | ((with_reducible apply lm_sAl); (first | exact rfl | assumption); omega)
    | ((with_reducible apply lm_iW); decide))
      simp only [Nat.reduceDiv, Nat.reduceMod]
      rw [RF4.1]
      refine lm_cV c5 ?_
      repeat (first
    | ((with_reducible apply lm_sI); exact rfl)
    | ((with_reducible apply lm_sR); exact rfl)
    | ((with_reducible apply lm_sS); exact rfl; exact rfl)
    | ((with_reducible apply lm_sL); exact rfl)
    | ((with_reducible apply lm_sP); exact rfl; exact rfl)
    | ((with_reducible apply lm_sPL); exact rfl; exact rfl)
    | ((with_reducible apply lm_sAA); exact rfl; exact rfl)
    | ((with_reducible apply lm_sA); (first | exact rfl | assumption); omega)
    | ((with_reducible apply lm_sJ); (first | exact rfl | assumption); omega)
    | ((with_reducible apply lm_sB); (first | exact rfl | assumption); omega)
    | ((with_reducible apply lm_wA); (first | exact rfl | assumption); omega)
    | ((with_reducible apply lm_wJ); (first | exact rfl | assumption); omega)
    | ((with_reducible apply lm_wB); (first | exact rfl | assumption); omega)
    | ((with_reducible apply lm_sAl); (first | exact rfl | assumption); omega)
    | ((with_reducible apply lm_iW); decide))
      refine lm_cV c6 ?_
      exact KK
    refine lm_cal_of (Y := lm_m114) rfl rfl (lm_e114_0 ?_)
    unfold lm_q114_0
    repeat (first
    | ((with_reducible apply lm_sI); exact rfl)
    | ((with_reducible apply lm_sR); exact rfl)
    | ((with_reducible apply lm_sS); exact rfl; exact rfl)
    | ((with_reducible apply lm_sL); exact rfl)
    | ((with_reducible apply lm_sP); exact rfl; exact rfl)
    | ((with_reducible apply lm_sPL); exact rfl; exact rfl)
    | ((with_reducible apply lm_sAA); exact rfl; exact rfl)
    | ((with_reducible apply lm_sA); (first | exact rfl | assumption); omega)
    | ((with_reducible apply lm_sJ); (first | exact rfl | assumption); omega)
    | ((with_reducible apply lm_sB); (first | exact rfl | assumption); omega)
    | ((with_reducible apply lm_wA); (first | exact rfl | assumption); omega)
    | ((with_reducible apply lm_wJ); (first | exact rfl | assumption); omega)
    | ((with_reducible apply lm_wB); (first | exact rfl | assumption); omega)
    | ((with_reducible apply lm_sAl); (first | exact rfl | assumption); omega)
    | ((with_reducible apply lm_iW); decide))
    simp only [Nat.reduceDiv, Nat.reduceMod]
    rw [hF.2.2.2.2.2.1, hF.2.2.2.2.1, hF.2.1, hF.2.2.2.1, b1, b2, b3, lm_oo, lm_oo]
    refine lm_cV c1 ?_
    refine lm_sIz rfl ?_
    simp only [Nat.reduceDiv, Nat.reduceMod]
    rw [RF1.2.2.2.2.2.2.2]
    by_cases c : s < 6
    · have esk : lm_sk s = true := decide_eq_true c
      rw [esk]
      refine lm_iF (show ¬ (1 : Int32) = 0 by decide) ?_
      rw [hw12 c] at e66
      exact e66
    · have esk : lm_sk s = false := decide_eq_false c
      rw [esk]
      refine lm_iT (show (0 : Int32) = 0 by decide) ?_
      have u112 := lm_u112 (sc := sc) (d := d + 5) (n := n1) (x := x) RF1
      rw [hlg c] at u112
      repeat (first
    | ((with_reducible apply lm_sI); exact rfl)
    | ((with_reducible apply lm_sR); exact rfl)
    | ((with_reducible apply lm_sS); exact rfl; exact rfl)
    | ((with_reducible apply lm_sL); exact rfl)
    | ((with_reducible apply lm_sP); exact rfl; exact rfl)
    | ((with_reducible apply lm_sPL); exact rfl; exact rfl)
    | ((with_reducible apply lm_sAA); exact rfl; exact rfl)
    | ((with_reducible apply lm_sA); (first | exact rfl | assumption); omega)
    | ((with_reducible apply lm_sJ); (first | exact rfl | assumption); omega)
    | ((with_reducible apply lm_sB); (first | exact rfl | assumption); omega)
    | ((with_reducible apply lm_wA); (first | exact rfl | assumption); omega)
    | ((with_reducible apply lm_wJ); (first | exact rfl | assumption); omega)
    | ((with_reducible apply lm_wB); (first | exact rfl | assumption); omega)
    | ((with_reducible apply lm_sAl); (first | exact rfl | assumption); omega)
    | ((with_reducible apply lm_iW); decide))
      refine lm_cI u112 ?_
      exact e66
  by_cases c : s < 6
  · have esk : lm_sk s = true := decide_eq_true c
    have ek := hw12 c
    obtain ⟨m7, n7, c7, f7⟩ := lm_rG (sc := sc) (d := d + 1) (x := x) (q := 356) (v := 64) (a := 0) (l := lm_fb s + lm_tB s + lm_lb s) C6 wb.2 (by decide) rfl (by omega) (by decide) (fun h => by omega) s6
    generalize eM : lm_fil m7 356 0 (0 + (lm_fb s + lm_tB s + lm_lb s)) (fun i => lm_Hm C k G (lm_sn s + 2 * lm_sn s + lm_sgl kk xl ml) (i - 0)) = M at c7
    have rM : ∀ r, r ≠ 356 → M r = m7 r := fun r hr => by rw [← eM, lm_fl_row hr]
    refine ⟨M, n7, run _ ?_, fun r r1 r2 r3 r4 r5 q6 r7 r8 => by rw [rM r r8, f7.1 r r1 r2, r6 r r1 r2 q6], FG6.tr (f7.G.tr (lm_fG.of (rM 203 (by decide)))), fun i hi => ?_⟩
    · refine lm_sIz rfl ?_
      simp only [Nat.reduceDiv, Nat.reduceMod]
      rw [RF6.2.2.2.2.2.2.2, esk]
      refine lm_iF (show ¬ (1 : Int32) = 0 by decide) ?_
      repeat (first
    | ((with_reducible apply lm_sI); exact rfl)
    | ((with_reducible apply lm_sR); exact rfl)
    | ((with_reducible apply lm_sS); exact rfl; exact rfl)
    | ((with_reducible apply lm_sL); exact rfl)
    | ((with_reducible apply lm_sP); exact rfl; exact rfl)
    | ((with_reducible apply lm_sPL); exact rfl; exact rfl)
    | ((with_reducible apply lm_sAA); exact rfl; exact rfl)
    | ((with_reducible apply lm_sA); (first | exact rfl | assumption); omega)
    | ((with_reducible apply lm_sJ); (first | exact rfl | assumption); omega)
    | ((with_reducible apply lm_sB); (first | exact rfl | assumption); omega)
    | ((with_reducible apply lm_wA); (first | exact rfl | assumption); omega)
    | ((with_reducible apply lm_wJ); (first | exact rfl | assumption); omega)
    | ((with_reducible apply lm_wB); (first | exact rfl | assumption); omega)
    | ((with_reducible apply lm_sAl); (first | exact rfl | assumption); omega)
    | ((with_reducible apply lm_iW); decide))
      exact lm_cV c7 rfl
    · rw [esk, ← eM, lm_fl_in (by omega), Nat.sub_zero]
      exact (hY i).symm
  · have esk : lm_sk s = false := decide_eq_false c
    have hkk := hwk c
    obtain ⟨kk1, kk6, kk12, kr1, kr2, kd1, kd2⟩ := lm_wk_r hkk
    have hq327 : q ≠ 327 := by omega
    obtain ⟨m7, n7, c7, f7⟩ := lm_rG (sc := sc) (d := d + 1) (x := x) (q := 332) (v := 64) (a := 0) (l := lm_dg k) C6 wb.2 (by decide) rfl (by omega) (by decide) (lm_dg_k kk1 kk12) s6
    generalize eM : lm_fil m7 332 0 (0 + lm_dg k) (fun i => lm_Hm C k G (lm_sn s + 2 * lm_sn s + lm_sgl kk xl ml) (i - 0)) = M at c7
    have rM : ∀ r, r ≠ 332 → M r = m7 r := fun r hr => by rw [← eM, lm_fl_row hr]
    have u8 := lm_u75 (sc := sc) (d := d + 5) (m := M) (n := n7) (x := x) (q := q) (p := 327) (v := v) (w := 16384) (a := 0) (b := 0) (l := lm_sn s) hq rfl hq327 (by omega) (by omega) hv (by decide)
    generalize eM8 : lm_fil M 327 0 (0 + lm_sn s) (fun i => lm_b8 (M q (0 + (i - 0)))) = M8 at u8
    have r8 : ∀ r, r ≠ 327 → M8 r = M r := fun r hr => by rw [← eM8, lm_fl_row hr]
    have u9 := lm_u75 (sc := sc) (d := d + 5) (m := M8) (n := n7) (x := x) (q := 358) (p := 327) (v := 32) (w := 16384) (a := 0) (b := lm_sn s) (l := lm_sn s) rfl rfl (by decide) (by omega) (by omega) (by decide) (by decide)
    generalize eM9 : lm_fil M8 327 (lm_sn s) (lm_sn s + lm_sn s) (fun i => lm_b8 (M8 358 (0 + (i - lm_sn s)))) = M9 at u9
    have r9 : ∀ r, r ≠ 327 → M9 r = M8 r := fun r hr => by rw [← eM9, lm_fl_row hr]
    have uA := lm_u75 (sc := sc) (d := d + 5) (m := M9) (n := n7) (x := x) (q := 332) (p := 327) (v := 64) (w := 16384) (a := 0) (b := 2 * lm_sn s) (l := lm_dg k) rfl rfl (by decide) (by omega) (by omega) (by decide) (by decide)
    generalize eMA : lm_fil M9 327 (2 * lm_sn s) (2 * lm_sn s + lm_dg k) (fun i => lm_b8 (M9 332 (0 + (i - 2 * lm_sn s)))) = MA at uA
    have rA : ∀ r, r ≠ 327 → MA r = M9 r := fun r hr => by rw [← eMA, lm_fl_row hr]
    have kA : ∀ r, r ≠ 327 → r ≠ 332 → MA r = m7 r := fun r h1 h2 => by rw [rA r h1, r9 r h1, r8 r h1, rM r h2]
    have FA : lm_fG m n MA n7 := FG6.tr (f7.G.tr (lm_fG.of (kA 203 (by decide) (by decide))))
    have CA : lm_cx MA n7 = C := (FA.cx (by rw [kA 221 (by decide) (by decide), f7.1 221 (by decide) (by decide), r6 221 (by decide) (by decide) (by decide)])).trans hC
    have v327 : ∀ t, t < lm_sn s + lm_sn s + lm_dg k → lm_b8 (MA 327 t) = lm_tri3 (lm_sn s) (lm_sn s) Rb QR Yf t := fun t ht => by
      unfold lm_tri3
      by_cases d1 : t < lm_sn s
      · rw [if_pos d1, ← eMA, lm_fl_out (by omega), ← eM9, lm_fl_out (by omega), ← eM8, lm_fl_in (by omega), lm_b8b8, rM q (by omega), f7.1 q gq2.1 gq2.2.2.1, r6 q gq2.1 gq2.2.2.1 (by omega), Nat.sub_zero, Nat.zero_add, hR t d1]
      · rw [if_neg d1]
        by_cases d2 : t < lm_sn s + lm_sn s
        · rw [if_pos d2, ← eMA, lm_fl_out (by omega), ← eM9, lm_fl_in (by omega), lm_b8b8, r8 358 (by decide), rM 358 (by decide), f7.1 358 (by decide) (by decide), r6 358 (by decide) (by decide) (by decide), Nat.zero_add, hP _ (by omega)]
        · rw [if_neg d2, ← eMA, lm_fl_in (by omega), lm_b8b8, r9 332 (by decide), r8 332 (by decide), ← eM, lm_fl_in (by omega), hY, Nat.zero_add, Nat.sub_zero, show t - 2 * lm_sn s = t - lm_sn s - lm_sn s by omega]
    obtain ⟨mB, nB, cB, vB, fB⟩ := lm_u66 (sc := sc) (d := d) (x := x) (m := MA) (n := n7) (b := k) (q := 327) (v := 16384) (p := 356) (w := 64) (l := lm_sn s + lm_sn s + lm_dg k) (L := lm_fb s + lm_tB s + lm_lb s) (h0 := lm_ms0 C k) (J := fun _ => 0) (bb := fun _ => 0) (h := lm_MS C k (lm_tri3 (lm_sn s) (lm_sn s) Rb QR Yf) (lm_sn s + lm_sn s + lm_dg k)) kk1 kk6 (by decide) (by decide) (by decide) rfl (by omega) (by decide) rfl (by omega) (by decide) (by rw [← CA]; rfl) (by
      rw [← lm_MS_ext (G := fun i => lm_b8 (MA 327 i)) (G' := lm_tri3 (lm_sn s) (lm_sn s) Rb QR Yf) (fun i hi => v327 i hi)]
      unfold lm_MS
      rw [show C.1 = lm_tb MA n7 by rw [← CA]; rfl])
    have eTb : lm_tb MA n7 = C.1 := by rw [← CA]; rfl
    refine ⟨mB, nB, run _ ?_, fun r r1 r2 r3 r4 r5 q6 r7 q8 => by rw [fB.1 r r1 r2 r3 r4 q8, kA r r5 r7, f7.1 r r1 r2, r6 r r1 r2 q6], FA.tr ⟨fB.2.1, fun q h1 h2 h3 h4 h5 _ => fB.2.2 q h1 h2 h3 h4 h5⟩, fun i hi => ?_⟩
    · have RFm : ∀ M' : lm_MI, M' 203 = m7 203 → M' 203 67 = Int32.ofNat (lm_sn s) := fun M' e => by rw [e, f7.2.1 67 (by decide) (by decide) (by decide)]; exact RF6.1
      have u112 := lm_u112 (sc := sc) (d := d + 5) (n := n6) (x := x) RF6
      have u112' := lm_u112 (sc := sc) (d := d + 5) (m := MA) (n := n7) (x := x) (FA.RF hF)
      rw [hlg c] at u112 u112'
      clear G0 G1 G1' G2 hR hP hT hY a3 a4 a5 v1 v327 vB eM eM8 eM9 eMA run
      refine lm_sIz rfl ?_
      simp only [Nat.reduceDiv, Nat.reduceMod]
      rw [RF6.2.2.2.2.2.2.2, esk]
      refine lm_iT (show (0 : Int32) = 0 by decide) ?_
      repeat (first
    | ((with_reducible apply lm_sI); exact rfl)
    | ((with_reducible apply lm_sR); exact rfl)
    | ((with_reducible apply lm_sS); exact rfl; exact rfl)
    | ((with_reducible apply lm_sL); exact rfl)
    | ((with_reducible apply lm_sP); exact rfl; exact rfl)
    | ((with_reducible apply lm_sPL); exact rfl; exact rfl)
    | ((with_reducible apply lm_sAA); exact rfl; exact rfl)
    | ((with_reducible apply lm_sA); (first | exact rfl | assumption); omega)
    | ((with_reducible apply lm_sJ); (first | exact rfl | assumption); omega)
    | ((with_reducible apply lm_sB); (first | exact rfl | assumption); omega)
    | ((with_reducible apply lm_wA); (first | exact rfl | assumption); omega)
    | ((with_reducible apply lm_wJ); (first | exact rfl | assumption); omega)
    | ((with_reducible apply lm_wB); (first | exact rfl | assumption); omega)
    | ((with_reducible apply lm_sAl); (first | exact rfl | assumption); omega)
    | ((with_reducible apply lm_iW); decide))
      refine lm_cI u112 ?_
      refine lm_cI (lm_u60 (d := d + 5) kk1 kk12) ?_
      repeat (first
    | ((with_reducible apply lm_sI); exact rfl)
    | ((with_reducible apply lm_sR); exact rfl)
    | ((with_reducible apply lm_sS); exact rfl; exact rfl)
    | ((with_reducible apply lm_sL); exact rfl)
    | ((with_reducible apply lm_sP); exact rfl; exact rfl)
    | ((with_reducible apply lm_sPL); exact rfl; exact rfl)
    | ((with_reducible apply lm_sAA); exact rfl; exact rfl)
    | ((with_reducible apply lm_sA); (first | exact rfl | assumption); omega)
    | ((with_reducible apply lm_sJ); (first | exact rfl | assumption); omega)
    | ((with_reducible apply lm_sB); (first | exact rfl | assumption); omega)
    | ((with_reducible apply lm_wA); (first | exact rfl | assumption); omega)
    | ((with_reducible apply lm_wJ); (first | exact rfl | assumption); omega)
    | ((with_reducible apply lm_wB); (first | exact rfl | assumption); omega)
    | ((with_reducible apply lm_sAl); (first | exact rfl | assumption); omega)
    | ((with_reducible apply lm_iW); decide))
      refine lm_cV c7 ?_
      repeat (first
    | ((with_reducible apply lm_sI); exact rfl)
    | ((with_reducible apply lm_sR); exact rfl)
    | ((with_reducible apply lm_sS); exact rfl; exact rfl)
    | ((with_reducible apply lm_sL); exact rfl)
    | ((with_reducible apply lm_sP); exact rfl; exact rfl)
    | ((with_reducible apply lm_sPL); exact rfl; exact rfl)
    | ((with_reducible apply lm_sAA); exact rfl; exact rfl)
    | ((with_reducible apply lm_sA); (first | exact rfl | assumption); omega)
    | ((with_reducible apply lm_sJ); (first | exact rfl | assumption); omega)
    | ((with_reducible apply lm_sB); (first | exact rfl | assumption); omega)
    | ((with_reducible apply lm_wA); (first | exact rfl | assumption); omega)
    | ((with_reducible apply lm_wJ); (first | exact rfl | assumption); omega)
    | ((with_reducible apply lm_wB); (first | exact rfl | assumption); omega)
    | ((with_reducible apply lm_sAl); (first | exact rfl | assumption); omega)
    | ((with_reducible apply lm_iW); decide))
      simp only [Nat.reduceDiv, Nat.reduceMod]
      rw [RFm M (rM 203 (by decide))]
      refine lm_cV u8 ?_
      repeat (first
    | ((with_reducible apply lm_sI); exact rfl)
    | ((with_reducible apply lm_sR); exact rfl)
    | ((with_reducible apply lm_sS); exact rfl; exact rfl)
    | ((with_reducible apply lm_sL); exact rfl)
    | ((with_reducible apply lm_sP); exact rfl; exact rfl)
    | ((with_reducible apply lm_sPL); exact rfl; exact rfl)
    | ((with_reducible apply lm_sAA); exact rfl; exact rfl)
    | ((with_reducible apply lm_sA); (first | exact rfl | assumption); omega)
    | ((with_reducible apply lm_sJ); (first | exact rfl | assumption); omega)
    | ((with_reducible apply lm_sB); (first | exact rfl | assumption); omega)
    | ((with_reducible apply lm_wA); (first | exact rfl | assumption); omega)
    | ((with_reducible apply lm_wJ); (first | exact rfl | assumption); omega)
    | ((with_reducible apply lm_wB); (first | exact rfl | assumption); omega)
    | ((with_reducible apply lm_sAl); (first | exact rfl | assumption); omega)
    | ((with_reducible apply lm_iW); decide))
      simp only [Nat.reduceDiv, Nat.reduceMod]
      rw [RFm M8 (by rw [r8 203 (by decide), rM 203 (by decide)])]
      refine lm_cV u9 ?_
      repeat (first
    | ((with_reducible apply lm_sI); exact rfl)
    | ((with_reducible apply lm_sR); exact rfl)
    | ((with_reducible apply lm_sS); exact rfl; exact rfl)
    | ((with_reducible apply lm_sL); exact rfl)
    | ((with_reducible apply lm_sP); exact rfl; exact rfl)
    | ((with_reducible apply lm_sPL); exact rfl; exact rfl)
    | ((with_reducible apply lm_sAA); exact rfl; exact rfl)
    | ((with_reducible apply lm_sA); (first | exact rfl | assumption); omega)
    | ((with_reducible apply lm_sJ); (first | exact rfl | assumption); omega)
    | ((with_reducible apply lm_sB); (first | exact rfl | assumption); omega)
    | ((with_reducible apply lm_wA); (first | exact rfl | assumption); omega)
    | ((with_reducible apply lm_wJ); (first | exact rfl | assumption); omega)
    | ((with_reducible apply lm_wB); (first | exact rfl | assumption); omega)
    | ((with_reducible apply lm_sAl); (first | exact rfl | assumption); omega)
    | ((with_reducible apply lm_iW); decide))
      simp only [Nat.reduceDiv, Nat.reduceMod]
      rw [RFm M9 (by rw [r9 203 (by decide), r8 203 (by decide), rM 203 (by decide)]), lm_om]
      refine lm_cV uA ?_
      repeat (first
    | ((with_reducible apply lm_sI); exact rfl)
    | ((with_reducible apply lm_sR); exact rfl)
    | ((with_reducible apply lm_sS); exact rfl; exact rfl)
    | ((with_reducible apply lm_sL); exact rfl)
    | ((with_reducible apply lm_sP); exact rfl; exact rfl)
    | ((with_reducible apply lm_sPL); exact rfl; exact rfl)
    | ((with_reducible apply lm_sAA); exact rfl; exact rfl)
    | ((with_reducible apply lm_sA); (first | exact rfl | assumption); omega)
    | ((with_reducible apply lm_sJ); (first | exact rfl | assumption); omega)
    | ((with_reducible apply lm_sB); (first | exact rfl | assumption); omega)
    | ((with_reducible apply lm_wA); (first | exact rfl | assumption); omega)
    | ((with_reducible apply lm_wJ); (first | exact rfl | assumption); omega)
    | ((with_reducible apply lm_wB); (first | exact rfl | assumption); omega)
    | ((with_reducible apply lm_sAl); (first | exact rfl | assumption); omega)
    | ((with_reducible apply lm_iW); decide))
      refine lm_cI u112' ?_
      repeat (first
    | ((with_reducible apply lm_sI); exact rfl)
    | ((with_reducible apply lm_sR); exact rfl)
    | ((with_reducible apply lm_sS); exact rfl; exact rfl)
    | ((with_reducible apply lm_sL); exact rfl)
    | ((with_reducible apply lm_sP); exact rfl; exact rfl)
    | ((with_reducible apply lm_sPL); exact rfl; exact rfl)
    | ((with_reducible apply lm_sAA); exact rfl; exact rfl)
    | ((with_reducible apply lm_sA); (first | exact rfl | assumption); omega)
    | ((with_reducible apply lm_sJ); (first | exact rfl | assumption); omega)
    | ((with_reducible apply lm_sB); (first | exact rfl | assumption); omega)
    | ((with_reducible apply lm_wA); (first | exact rfl | assumption); omega)
    | ((with_reducible apply lm_wJ); (first | exact rfl | assumption); omega)
    | ((with_reducible apply lm_wB); (first | exact rfl | assumption); omega)
    | ((with_reducible apply lm_sAl); (first | exact rfl | assumption); omega)
    | ((with_reducible apply lm_iW); decide))
      simp only [Nat.reduceDiv, Nat.reduceMod]
      rw [RFm MA (kA 203 (by decide) (by decide)), lm_om, lm_oo, show 2 * lm_sn s + lm_dg k = lm_sn s + lm_sn s + lm_dg k by omega]
      exact lm_cV cB rfl
    · rw [esk, vB i hi, lm_b8b8, eTb]
      rfl
end LMUE
