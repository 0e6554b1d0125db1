/-! ===== SLH of the reference: the random bytes ===== -/
section LMUK
variable {sc : lm_H} {C : lm_CX} {d s k l a q v kk xl ml : Nat} {m m' : lm_MI} {n n' : lm_ML} {x : lm_H × Nat × Nat} {K Rn Sg G Kb : Nat → Int32}
theorem lm_l64y {R : Except Nat lm_R × lm_S} (KK : lm_rn sc d lm_m64.2.2.2.2.1 (lm_reg lm_m64.2.2.2.2.2) (9, [(0, .ref 203), (1, .int (Int32.ofNat k)), (2, .ref q), (3, .int (Int32.ofNat a)), (4, .int (Int32.ofNat l)), (5, .int (Int32.ofNat (lm_rate k))), (6, .int (Int32.ofNat 128))], []) (lm_w (lm_fil m 228 0 128 fun _ => Int32.ofInt 0) n x) = some R) : ∀ j t, t + j = 128 → lm_rn sc d lm_m64.2.2.2.2.1 (lm_reg lm_m64.2.2.2.2.2) (9, [(0, .ref 203), (1, .int (Int32.ofNat k)), (2, .ref q), (3, .int (Int32.ofNat a)), (4, .int (Int32.ofNat l)), (5, .int (Int32.ofNat (lm_rate k))), (6, .int (Int32.ofNat t))], []) (lm_w (lm_fil m 228 0 t fun _ => Int32.ofInt 0) n x) = some R := by
  intro j
  induction j with
  | zero =>
    intro t ht
    have ht : t = 128 := ht
    subst ht
    exact KK
  | succ j ih =>
    intro t ht
    have I := ih (t + 1) (by omega)
    rw [← lm_fl_step (g := fun _ => Int32.ofInt 0) (by omega)] at I
    refine lm_e64_9 ?_
    unfold lm_q64_9
    rw [lm_K128]
    refine lm_geF (by omega) (by omega) (by omega) ?_
    repeat (first
    | ((with_reducible apply lm_sI); exact rfl)
    | ((with_reducible apply lm_sR); exact rfl)
    | ((with_reducible apply lm_sS); exact rfl; exact rfl)
    | ((with_reducible apply lm_sL); exact rfl)
    | ((with_reducible apply lm_sP); exact rfl; exact rfl)
    | ((with_reducible apply lm_sPL); exact rfl; exact rfl)
    | ((with_reducible apply lm_sAA); exact rfl; first | exact rfl | exact lm_roO (by omega) | exact lm_roM (by omega))
    | ((with_reducible apply lm_sI); exact lm_fpL (by omega))
    | ((with_reducible apply lm_sR); exact lm_fpB (by omega))
    | ((with_reducible apply lm_sP); exact lm_fpL (by omega); exact rfl)
    | ((with_reducible apply lm_sS); exact lm_ocO (by omega); exact rfl)
    | ((with_reducible apply lm_sA); exact rfl; omega)
    | ((with_reducible apply lm_sJ); exact rfl; omega)
    | ((with_reducible apply lm_sB); (first | exact rfl | exact lm_arB (by omega) | exact lm_arM (by omega)); omega)
    | ((with_reducible apply lm_wA); exact rfl; omega)
    | ((with_reducible apply lm_wJ); exact rfl; omega)
    | ((with_reducible apply lm_wB); (first | exact rfl | exact lm_arB (by omega) | exact lm_arM (by omega)); omega)
    | ((with_reducible apply lm_sAl); (first | exact rfl | exact lm_arB (by omega) | exact lm_arM (by omega)); omega)
    | ((with_reducible apply lm_iW); decide))
    rw [show Int32.ofNat t + Int32.ofInt 1 = Int32.ofNat (t + 1) from lm_oa t 1]
    exact I
def lm_I64r (C : lm_CX) (k : Nat) (G : Nat → Int32) (m0 : lm_MI) (n0 : lm_ML) (j : Nat) (m : lm_MI) (n : lm_ML) : Prop := lm_rH m n C k G j ∧ lm_fh m0 n0 m n
theorem lm_u64k (hC : lm_cx m n = C) (hk : k = 1 ∨ k = 3) (hq : q ≠ 203 ∧ q ≠ 227 ∧ q ≠ 228 ∧ q ≠ 229) (har : lm_ar q = some (1, v)) (hlv : a + l ≤ v) (hv : v ≤ 70000) (hl : l ≤ 32) (hK : ∀ t, t < l → lm_b8 (m q (a + t)) = K t) (hG : ∀ t, t < lm_rate k → G t = lm_kg l K t) : ∃ m' n', lm_cal sc (d + 6) 64 [.ref 203, .int (Int32.ofNat k), .ref q, .int (Int32.ofNat a), .int (Int32.ofNat l)] (lm_w m n x) = some (.ok none, lm_w m' n' x) ∧ lm_rH m' n' C k G (lm_rate k) ∧ (∀ i, i < 128 → lm_b8 (m' 228 i) = lm_kyx l K i) ∧ lm_fg m n m' n' := by
  obtain ⟨h1, h6, h12, hr1, hr2, _, _⟩ := lm_wk_r hk
  generalize eM1 : lm_fil m 228 0 128 (fun _ => Int32.ofInt 0) = M1
  have r1 : ∀ r, r ≠ 228 → M1 r = m r := fun r hr => by rw [← eM1, lm_fl_row hr]
  have u2 := lm_u75 (sc := sc) (d := d + 4) (m := M1) (n := n) (x := x) (q := q) (p := 228) (v := v) (w := 128) (a := a) (b := 0) (l := l) har rfl hq.2.2.1 hlv (by omega) hv (by decide)
  generalize eM2 : lm_fil M1 228 0 (0 + l) (fun i => lm_b8 (M1 q (a + (i - 0)))) = M2 at u2
  have r2 : ∀ r, r ≠ 228 → M2 r = m r := fun r hr => by rw [← eM2, lm_fl_row hr, r1 r hr]
  have k2 : ∀ i, i < 128 → lm_b8 (M2 228 i) = lm_kyx l K i := fun i hi => by
    unfold lm_kyx
    by_cases c : i < l
    · rw [if_pos c, ← eM2, lm_fl_in (by omega), lm_b8b8, r1 q hq.2.2.1, Nat.sub_zero]
      exact hK i c
    · rw [if_neg c, ← eM2, lm_fl_out (by omega), ← eM1, lm_fl_in (by omega)]
      decide
  have C2 : lm_cx M2 n = C := by
    rw [← hC]
    unfold lm_cx lm_tb
    rw [r2 221 (by decide)]
  obtain ⟨m3, n3, c3, s3, f3⟩ := lm_rS (sc := sc) (d := d + 3) (x := x) (m := M2) (n := n) (k := k) (G := G) C2 h1 h12
  have C3 : lm_cx m3 n3 = C := f3.cx.trans C2
  have e3 : m3 228 = M2 228 := f3.1 228 (by decide) (by decide)
  obtain ⟨m4, n4, ⟨s4, f4⟩, k4⟩ := lm_lp (sc := sc) (d := d + 5) (x := x) (hs := lm_m64.2.2.2.2.1) (code := lm_reg lm_m64.2.2.2.2.2) (fr := fun t => (87, [(0, .ref 203), (5, .int (Int32.ofNat (lm_rate k))), (6, .int (Int32.ofNat t))], [])) (I := lm_I64r C k G m3 n3) (b := lm_rate k) (fun t ht m5 n5 ⟨s5, f5⟩ => by
    obtain ⟨m6, n6, c6, s6, f6⟩ := lm_rB (sc := sc) (d := d + 2) (x := x) (m := m5) (n := n5) (w := lm_b8 (m5 228 t) ^^^ Int32.ofInt 54) (f5.cx.trans C3) h12 (by rw [f5.1 228 (by decide) (by decide), e3, k2 t (by omega), hG t ht]; rfl) s5
    refine ⟨m6, n6, ⟨s6, f5.tr f6⟩, fun R KK => ?_⟩
    clear k2 hK hG
    refine lm_e64_87 ?_
    unfold lm_q64_87
    refine lm_geF (by omega) (by omega) (by omega) ?_
    rw [lm_K1, lm_oo]
    repeat (first
    | ((with_reducible apply lm_sI); exact rfl)
    | ((with_reducible apply lm_sR); exact rfl)
    | ((with_reducible apply lm_sS); exact rfl; exact rfl)
    | ((with_reducible apply lm_sL); exact rfl)
    | ((with_reducible apply lm_sP); exact rfl; exact rfl)
    | ((with_reducible apply lm_sPL); exact rfl; exact rfl)
    | ((with_reducible apply lm_sAA); exact rfl; first | exact rfl | exact lm_roO (by omega) | exact lm_roM (by omega))
    | ((with_reducible apply lm_sI); exact lm_fpL (by omega))
    | ((with_reducible apply lm_sR); exact lm_fpB (by omega))
    | ((with_reducible apply lm_sP); exact lm_fpL (by omega); exact rfl)
    | ((with_reducible apply lm_sS); exact lm_ocO (by omega); exact rfl)
    | ((with_reducible apply lm_sA); exact rfl; omega)
    | ((with_reducible apply lm_sJ); exact rfl; omega)
    | ((with_reducible apply lm_sB); (first | exact rfl | exact lm_arB (by omega) | exact lm_arM (by omega)); omega)
    | ((with_reducible apply lm_wA); exact rfl; omega)
    | ((with_reducible apply lm_wJ); exact rfl; omega)
    | ((with_reducible apply lm_wB); (first | exact rfl | exact lm_arB (by omega) | exact lm_arM (by omega)); omega)
    | ((with_reducible apply lm_sAl); (first | exact rfl | exact lm_arB (by omega) | exact lm_arM (by omega)); omega)
    | ((with_reducible apply lm_iW); decide))
    refine lm_cV c6 ?_
    exact KK) (lm_rate k) 0 (Nat.zero_add _) m3 n3 ⟨s3, lm_fh.rf⟩
  refine ⟨m4, n4, ?_, s4, fun i hi => by rw [f4.1 228 (by decide) (by decide), e3]; exact k2 i hi, ?_⟩
  · clear k2 hK hG
    have e79 : lm_rn sc (d + 5) lm_m64.2.2.2.2.1 (lm_reg lm_m64.2.2.2.2.2) (79, [(0, .ref 203), (1, .int (Int32.ofNat k)), (5, .int (Int32.ofNat (lm_rate k)))], []) (lm_w M2 n x) = some (.ok none, lm_w m4 n4 x) := by
      refine lm_e64_79 ?_
      unfold lm_q64_79
      rw [lm_K0]
      repeat (first
    | ((with_reducible apply lm_sI); exact rfl)
    | ((with_reducible apply lm_sR); exact rfl)
    | ((with_reducible apply lm_sS); exact rfl; exact rfl)
    | ((with_reducible apply lm_sL); exact rfl)
    | ((with_reducible apply lm_sP); exact rfl; exact rfl)
    | ((with_reducible apply lm_sPL); exact rfl; exact rfl)
    | ((with_reducible apply lm_sAA); exact rfl; first | exact rfl | exact lm_roO (by omega) | exact lm_roM (by omega))
    | ((with_reducible apply lm_sI); exact lm_fpL (by omega))
    | ((with_reducible apply lm_sR); exact lm_fpB (by omega))
    | ((with_reducible apply lm_sP); exact lm_fpL (by omega); exact rfl)
    | ((with_reducible apply lm_sS); exact lm_ocO (by omega); exact rfl)
    | ((with_reducible apply lm_sA); exact rfl; omega)
    | ((with_reducible apply lm_sJ); exact rfl; omega)
    | ((with_reducible apply lm_sB); (first | exact rfl | exact lm_arB (by omega) | exact lm_arM (by omega)); omega)
    | ((with_reducible apply lm_wA); exact rfl; omega)
    | ((with_reducible apply lm_wJ); exact rfl; omega)
    | ((with_reducible apply lm_wB); (first | exact rfl | exact lm_arB (by omega) | exact lm_arM (by omega)); omega)
    | ((with_reducible apply lm_sAl); (first | exact rfl | exact lm_arB (by omega) | exact lm_arM (by omega)); omega)
    | ((with_reducible apply lm_iW); decide))
      refine lm_cV c3 ?_
      refine k4 _ (lm_e64_87 ?_)
      unfold lm_q64_87
      exact lm_geT (by omega) (by omega) (Nat.le_refl _) rfl
    have e9 : lm_rn sc (d + 5) lm_m64.2.2.2.2.1 (lm_reg lm_m64.2.2.2.2.2) (9, [(0, .ref 203), (1, .int (Int32.ofNat k)), (2, .ref q), (3, .int (Int32.ofNat a)), (4, .int (Int32.ofNat l)), (5, .int (Int32.ofNat (lm_rate k))), (6, .int (Int32.ofNat 128))], []) (lm_w (lm_fil m 228 0 128 fun _ => Int32.ofInt 0) n x) = some (.ok none, lm_w m4 n4 x) := by
      rw [eM1]
      refine lm_e64_9 ?_
      unfold lm_q64_9
      rw [lm_K128, lm_K0]
      refine lm_geT (by decide) (by decide) (by decide) ?_
      refine lm_leT (by omega) (by omega) (by omega) ?_
      repeat (first
    | ((with_reducible apply lm_sI); exact rfl)
    | ((with_reducible apply lm_sR); exact rfl)
    | ((with_reducible apply lm_sS); exact rfl; exact rfl)
    | ((with_reducible apply lm_sL); exact rfl)
    | ((with_reducible apply lm_sP); exact rfl; exact rfl)
    | ((with_reducible apply lm_sPL); exact rfl; exact rfl)
    | ((with_reducible apply lm_sAA); exact rfl; first | exact rfl | exact lm_roO (by omega) | exact lm_roM (by omega))
    | ((with_reducible apply lm_sI); exact lm_fpL (by omega))
    | ((with_reducible apply lm_sR); exact lm_fpB (by omega))
    | ((with_reducible apply lm_sP); exact lm_fpL (by omega); exact rfl)
    | ((with_reducible apply lm_sS); exact lm_ocO (by omega); exact rfl)
    | ((with_reducible apply lm_sA); exact rfl; omega)
    | ((with_reducible apply lm_sJ); exact rfl; omega)
    | ((with_reducible apply lm_sB); (first | exact rfl | exact lm_arB (by omega) | exact lm_arM (by omega)); omega)
    | ((with_reducible apply lm_wA); exact rfl; omega)
    | ((with_reducible apply lm_wJ); exact rfl; omega)
    | ((with_reducible apply lm_wB); (first | exact rfl | exact lm_arB (by omega) | exact lm_arM (by omega)); omega)
    | ((with_reducible apply lm_sAl); (first | exact rfl | exact lm_arB (by omega) | exact lm_arM (by omega)); omega)
    | ((with_reducible apply lm_iW); decide))
      refine lm_cV u2 ?_
      exact e79
    have L := lm_l64y (sc := sc) (d := d + 5) (m := m) (n := n) (x := x) e9 128 0 rfl
    rw [lm_fl_nil] at L
    refine lm_cal_of (Y := lm_m64) rfl rfl (lm_e64_0 ?_)
    unfold lm_q64_0
    rw [lm_K0]
    refine lm_cI (lm_u146 (d := d + 4) h12) ?_
    rw [← lm_rate6 h1 h6]
    exact L
  · have f23 := f3.tr f4
    exact ⟨fun r q1 q2 q3 q4 => by rw [f23.1 r q1 q2, r2 r q3], fun j j1 j2 j3 => by rw [f23.2.1 j j1 j2 j3, r2 203 (by decide)], f23.2.2⟩
/-- from the turn's source to the packet's first bytes -/
theorem lm_l36a {q0 v0 : Nat} (hC : lm_cx m n = C) (hs : s ≤ 11) (hF : lm_RF m s) (hk : kk ≤ 13) (hxk : kk = 0 ∨ xl ≤ 255) (hml : ml ≤ 65536) (hG : lm_Rsg C kk xl ml Sg m) (hK : ∀ t, t < lm_sn s → lm_b8 (m 208 (lm_sn s + t)) = K t) (hq0 : lm_ar q0 = some (1, v0)) (gq0 : q0 ≠ 360) (hv0 : 32 ≤ v0) (hv0' : v0 ≤ 70000) (hR : ∀ t, t < lm_sn s → lm_b8 (m q0 t) = Rn t) : ∃ m' n', (∀ R, lm_rn sc (d + 25) lm_m36.2.2.2.2.1 (lm_reg lm_m36.2.2.2.2.2) (334, [(0, .ref 203), (2, .int (ln_kd kk))], []) (lm_w m' n' x) = some R → lm_rn sc (d + 25) lm_m36.2.2.2.2.1 (lm_reg lm_m36.2.2.2.2.2) (202, [(0, .ref 203), (2, .int (ln_kd kk))], [.ref q0]) (lm_w m n x) = some R) ∧ (∀ r, r ≠ 203 → r ≠ 227 → r ≠ 228 → r ≠ 229 → r ≠ 265 → r ≠ 329 → r ≠ 360 → m' r = m r) ∧ lm_fG m n m' n' ∧ ∀ t, t < lm_sn s → lm_b8 (m' 265 t) = lm_rnd C s K Rn Sg (lm_sgl kk xl ml) t := by
  have hpar := lm_spar s hs
  have u1 := lm_u75 (sc := sc) (d := d + 24) (m := m) (n := n) (x := x) (q := q0) (p := 360) (v := v0) (w := 32) (a := 0) (b := 0) (l := lm_sn s) hq0 rfl gq0 (by omega) (by omega) hv0' (by decide)
  generalize eM1 : lm_fil m 360 0 (0 + lm_sn s) (fun i => lm_b8 (m q0 (0 + (i - 0)))) = M1 at u1
  have r1 : ∀ r, r ≠ 360 → M1 r = m r := fun r hr => by rw [← eM1, lm_fl_row hr]
  have g1 : lm_fG m n M1 n := lm_fG.of (r1 203 (by decide))
  have v1 : ∀ t, t < lm_sn s → lm_b8 (M1 360 t) = Rn t := fun t ht => by
    rw [← eM1, lm_fl_in (by omega), lm_b8b8, Nat.sub_zero, Nat.zero_add]
    exact hR t ht
  have C1 : lm_cx M1 n = C := (g1.cx (r1 221 (by decide))).trans hC
  obtain ⟨X, Mg, a1, a2, a3, a4, a5⟩ := hG
  obtain ⟨m2, n2, c2, f2, g2, w2⟩ := lm_u111 (sc := sc) (d := d + 19) (x := x) (m := M1) (n := n) (Mg := Mg) C1 hk (by rw [r1 214 (by decide)]; exact a2) hml (by rw [r1 209 (by decide)]; exact a4)
  have C2 : lm_cx m2 n2 = C := (g2.cx (f2 221 (by decide) (by decide) (by decide))).trans C1
  have k2 : ∀ r, r ≠ 203 → r ≠ 227 → r ≠ 329 → r ≠ 360 → m2 r = m r := fun r h1 h2 h3 h4 => by rw [f2 r h1 h2 h3, r1 r h4]
  have F2 := (g1.tr g2).RF hF
  have v2 : ∀ t, t < lm_sn s → lm_b8 (m2 360 t) = Rn t := fun t ht => by rw [f2 360 (by decide) (by decide) (by decide)]; exact v1 t ht
  have F1 := g1.RF hF
  by_cases c : s < 6
  · have esk : lm_sk s = true := decide_eq_true c
    unfold lm_rnd
    rw [esk]
    generalize eG : lm_tri3 (lm_sn s) (lm_sn s) K Rn Sg = G
    have G0 : ∀ t, t < lm_sn s → G t = K t := fun t ht => by rw [← eG]; exact lm_tri3_0 ht
    have G1 : ∀ t, t < lm_sn s → G (lm_sn s + t) = Rn t := fun t ht => by rw [← eG]; exact lm_tri3_1 ht
    have G2 : ∀ t, G (lm_sn s + lm_sn s + t) = Sg t := fun t => by rw [← eG]; exact lm_tri3_2
    obtain ⟨m3, n3, c3, s3, f3⟩ := lm_rS (sc := sc) (d := d + 23) (x := x) (m := m2) (n := n2) (k := 12) (G := G) C2 (by decide) (by decide)
    obtain ⟨m4, n4, c4, s4, f4⟩ := lm_rA (sc := sc) (d := d + 21) (x := x) (q := 208) (v := 65536) (a := lm_sn s) (l := lm_sn s) (L := 0) (f3.cx.trans C2) (by decide) (by decide) rfl (by omega) (by decide) (fun t ht => by rw [f3.1 208 (by decide) (by decide), k2 208 (by decide) (by decide) (by decide) (by decide), hK t ht, Nat.zero_add, G0 t ht]) s3
    rw [Nat.zero_add] at s4
    have F4 := f3.tr f4
    obtain ⟨m5, n5, c5, s5, f5⟩ := lm_rA (sc := sc) (d := d + 21) (x := x) (q := 360) (v := 32) (a := 0) (l := lm_sn s) (F4.cx.trans C2) (by decide) (by decide) rfl (by omega) (by decide) (fun t ht => by rw [F4.1 360 (by decide) (by decide), Nat.zero_add, v2 t ht, G1 t ht]) s4
    have F5 := F4.tr f5
    have k5 : ∀ r, r ≠ 203 → r ≠ 227 → r ≠ 329 → r ≠ 360 → m5 r = m r := fun r h1 h2 h3 h4 => by rw [F5.1 r h1 h2, k2 r h1 h2 h3 h4]
    obtain ⟨m6, n6, c6, s6, f6⟩ := lm_u113 (sc := sc) (d := d + 20) (x := x) (m := m5) (n := n5) (X := X) (Mg := Mg) (F5.cx.trans C2) (by decide) hk hxk (by rw [k5 214 (by decide) (by decide) (by decide) (by decide)]; exact a1) (by rw [k5 214 (by decide) (by decide) (by decide) (by decide)]; exact a2) hml (by rw [k5 210 (by decide) (by decide) (by decide) (by decide)]; exact a3) (by rw [k5 209 (by decide) (by decide) (by decide) (by decide)]; exact a4) (fun h t ht => by rw [F5.1 329 (by decide) (by decide)]; exact w2 h t ht) (fun t ht => by rw [G2, a5 t ht]) s5
    have F6 := F5.tr f6
    obtain ⟨m7, n7, c7, f7⟩ := lm_rG (sc := sc) (d := d + 20) (x := x) (q := 265) (v := 65536) (a := 0) (l := lm_sn s) (F6.cx.trans C2) (by decide) (by decide) rfl (by omega) (by decide) (fun h => absurd h (by decide)) s6
    have F7 := F6.tr f7
    generalize eM : lm_fil m7 265 0 (0 + lm_sn s) (fun i => lm_Hm C 12 G (lm_sn s + lm_sn s + lm_sgl kk xl ml) (i - 0)) = M at c7
    have rM : ∀ r, r ≠ 265 → M r = m7 r := fun r hr => by rw [← eM, lm_fl_row hr]
    refine ⟨M, n7, fun R KK => ?_, fun r h1 h2 h3 h4 h5 h6 h7 => by rw [rM r h5, F7.1 r h1 h2, k2 r h1 h2 h6 h7], (g1.tr g2).tr (F7.G.tr (lm_fG.of (rM 203 (by decide)))), fun t ht => ?_⟩
    · have F2' := F2
      have F4f := ((g1.tr g2).tr F4.G).RF hF
      have F6f := ((g1.tr g2).tr F6.G).RF hF
      have F3f := ((g1.tr g2).tr f3.G).RF hF
      clear G0 G1 G2 hK hR v1 v2 w2 a3 a4 a5 eM
      have e276 : lm_rn sc (d + 25) lm_m36.2.2.2.2.1 (lm_reg lm_m36.2.2.2.2.2) (276, [(0, .ref 203), (2, .int (ln_kd kk))], []) (lm_w m4 n4 x) = some R := by
        refine lm_e36_276 ?_
        unfold lm_q36_276
        rw [lm_K0]
        repeat (first
    | ((with_reducible apply lm_sI); exact rfl)
    | ((with_reducible apply lm_sR); exact rfl)
    | ((with_reducible apply lm_sS); exact rfl; exact rfl)
    | ((with_reducible apply lm_sL); exact rfl)
    | ((with_reducible apply lm_sP); exact rfl; exact rfl)
    | ((with_reducible apply lm_sPL); exact rfl; exact rfl)
    | ((with_reducible apply lm_sAA); exact rfl; first | exact rfl | exact lm_roO (by omega) | exact lm_roM (by omega))
    | ((with_reducible apply lm_sI); exact lm_fpL (by omega))
    | ((with_reducible apply lm_sR); exact lm_fpB (by omega))
    | ((with_reducible apply lm_sP); exact lm_fpL (by omega); exact rfl)
    | ((with_reducible apply lm_sS); exact lm_ocO (by omega); exact rfl)
    | ((with_reducible apply lm_sA); exact rfl; omega)
    | ((with_reducible apply lm_sJ); exact rfl; omega)
    | ((with_reducible apply lm_sB); (first | exact rfl | exact lm_arB (by omega) | exact lm_arM (by omega)); omega)
    | ((with_reducible apply lm_wA); exact rfl; omega)
    | ((with_reducible apply lm_wJ); exact rfl; omega)
    | ((with_reducible apply lm_wB); (first | exact rfl | exact lm_arB (by omega) | exact lm_arM (by omega)); omega)
    | ((with_reducible apply lm_sAl); (first | exact rfl | exact lm_arB (by omega) | exact lm_arM (by omega)); omega)
    | ((with_reducible apply lm_iW); decide))
        simp only [Nat.reduceDiv, Nat.reduceMod]
        rw [F4f.1]
        refine lm_cV c5 ?_
        repeat (first
    | ((with_reducible apply lm_sI); exact rfl)
    | ((with_reducible apply lm_sR); exact rfl)
    | ((with_reducible apply lm_sS); exact rfl; exact rfl)
    | ((with_reducible apply lm_sL); exact rfl)
    | ((with_reducible apply lm_sP); exact rfl; exact rfl)
    | ((with_reducible apply lm_sPL); exact rfl; exact rfl)
    | ((with_reducible apply lm_sAA); exact rfl; first | exact rfl | exact lm_roO (by omega) | exact lm_roM (by omega))
    | ((with_reducible apply lm_sI); exact lm_fpL (by omega))
    | ((with_reducible apply lm_sR); exact lm_fpB (by omega))
    | ((with_reducible apply lm_sP); exact lm_fpL (by omega); exact rfl)
    | ((with_reducible apply lm_sS); exact lm_ocO (by omega); exact rfl)
    | ((with_reducible apply lm_sA); exact rfl; omega)
    | ((with_reducible apply lm_sJ); exact rfl; omega)
    | ((with_reducible apply lm_sB); (first | exact rfl | exact lm_arB (by omega) | exact lm_arM (by omega)); omega)
    | ((with_reducible apply lm_wA); exact rfl; omega)
    | ((with_reducible apply lm_wJ); exact rfl; omega)
    | ((with_reducible apply lm_wB); (first | exact rfl | exact lm_arB (by omega) | exact lm_arM (by omega)); omega)
    | ((with_reducible apply lm_sAl); (first | exact rfl | exact lm_arB (by omega) | exact lm_arM (by omega)); omega)
    | ((with_reducible apply lm_iW); decide))
        refine lm_cV c6 ?_
        refine lm_sIz rfl ?_
        simp only [Nat.reduceDiv, Nat.reduceMod]
        rw [F6f.2.2.2.2.2.2.2, esk]
        refine lm_iF (show ¬ (1 : Int32) = 0 by decide) ?_
        repeat (first
    | ((with_reducible apply lm_sI); exact rfl)
    | ((with_reducible apply lm_sR); exact rfl)
    | ((with_reducible apply lm_sS); exact rfl; exact rfl)
    | ((with_reducible apply lm_sL); exact rfl)
    | ((with_reducible apply lm_sP); exact rfl; exact rfl)
    | ((with_reducible apply lm_sPL); exact rfl; exact rfl)
    | ((with_reducible apply lm_sAA); exact rfl; first | exact rfl | exact lm_roO (by omega) | exact lm_roM (by omega))
    | ((with_reducible apply lm_sI); exact lm_fpL (by omega))
    | ((with_reducible apply lm_sR); exact lm_fpB (by omega))
    | ((with_reducible apply lm_sP); exact lm_fpL (by omega); exact rfl)
    | ((with_reducible apply lm_sS); exact lm_ocO (by omega); exact rfl)
    | ((with_reducible apply lm_sA); exact rfl; omega)
    | ((with_reducible apply lm_sJ); exact rfl; omega)
    | ((with_reducible apply lm_sB); (first | exact rfl | exact lm_arB (by omega) | exact lm_arM (by omega)); omega)
    | ((with_reducible apply lm_wA); exact rfl; omega)
    | ((with_reducible apply lm_wJ); exact rfl; omega)
    | ((with_reducible apply lm_wB); (first | exact rfl | exact lm_arB (by omega) | exact lm_arM (by omega)); omega)
    | ((with_reducible apply lm_sAl); (first | exact rfl | exact lm_arB (by omega) | exact lm_arM (by omega)); omega)
    | ((with_reducible apply lm_iW); decide))
        simp only [Nat.reduceDiv, Nat.reduceMod]
        rw [F6f.1]
        refine lm_cV c7 ?_
        exact KK
      refine lm_e36_202 ?_
      unfold lm_q36_202
      rw [lm_K0, lm_K2]
      repeat (first
    | ((with_reducible apply lm_sI); exact rfl)
    | ((with_reducible apply lm_sR); exact rfl)
    | ((with_reducible apply lm_sS); exact rfl; exact rfl)
    | ((with_reducible apply lm_sL); exact rfl)
    | ((with_reducible apply lm_sP); exact rfl; exact rfl)
    | ((with_reducible apply lm_sPL); exact rfl; exact rfl)
    | ((with_reducible apply lm_sAA); exact rfl; first | exact rfl | exact lm_roO (by omega) | exact lm_roM (by omega))
    | ((with_reducible apply lm_sI); exact lm_fpL (by omega))
    | ((with_reducible apply lm_sR); exact lm_fpB (by omega))
    | ((with_reducible apply lm_sP); exact lm_fpL (by omega); exact rfl)
    | ((with_reducible apply lm_sS); exact lm_ocO (by omega); exact rfl)
    | ((with_reducible apply lm_sA); exact rfl; omega)
    | ((with_reducible apply lm_sJ); exact rfl; omega)
    | ((with_reducible apply lm_sB); (first | exact rfl | exact lm_arB (by omega) | exact lm_arM (by omega)); omega)
    | ((with_reducible apply lm_wA); exact rfl; omega)
    | ((with_reducible apply lm_wJ); exact rfl; omega)
    | ((with_reducible apply lm_wB); (first | exact rfl | exact lm_arB (by omega) | exact lm_arM (by omega)); omega)
    | ((with_reducible apply lm_sAl); (first | exact rfl | exact lm_arB (by omega) | exact lm_arM (by omega)); omega)
    | ((with_reducible apply lm_iW); decide))
      simp only [Nat.reduceDiv, Nat.reduceMod]
      rw [hF.1]
      refine lm_cV u1 ?_
      repeat (first
    | ((with_reducible apply lm_sI); exact rfl)
    | ((with_reducible apply lm_sR); exact rfl)
    | ((with_reducible apply lm_sS); exact rfl; exact rfl)
    | ((with_reducible apply lm_sL); exact rfl)
    | ((with_reducible apply lm_sP); exact rfl; exact rfl)
    | ((with_reducible apply lm_sPL); exact rfl; exact rfl)
    | ((with_reducible apply lm_sAA); exact rfl; first | exact rfl | exact lm_roO (by omega) | exact lm_roM (by omega))
    | ((with_reducible apply lm_sI); exact lm_fpL (by omega))
    | ((with_reducible apply lm_sR); exact lm_fpB (by omega))
    | ((with_reducible apply lm_sP); exact lm_fpL (by omega); exact rfl)
    | ((with_reducible apply lm_sS); exact lm_ocO (by omega); exact rfl)
    | ((with_reducible apply lm_sA); exact rfl; omega)
    | ((with_reducible apply lm_sJ); exact rfl; omega)
    | ((with_reducible apply lm_sB); (first | exact rfl | exact lm_arB (by omega) | exact lm_arM (by omega)); omega)
    | ((with_reducible apply lm_wA); exact rfl; omega)
    | ((with_reducible apply lm_wJ); exact rfl; omega)
    | ((with_reducible apply lm_wB); (first | exact rfl | exact lm_arB (by omega) | exact lm_arM (by omega)); omega)
    | ((with_reducible apply lm_sAl); (first | exact rfl | exact lm_arB (by omega) | exact lm_arM (by omega)); omega)
    | ((with_reducible apply lm_iW); decide))
      refine lm_cV c2 ?_
      refine lm_sIz rfl ?_
      simp only [Nat.reduceDiv, Nat.reduceMod]
      rw [F2.2.2.2.2.2.2.2, esk]
      refine lm_iF (show ¬ (1 : Int32) = 0 by decide) ?_
      rw [lm_K12]
      repeat (first
    | ((with_reducible apply lm_sI); exact rfl)
    | ((with_reducible apply lm_sR); exact rfl)
    | ((with_reducible apply lm_sS); exact rfl; exact rfl)
    | ((with_reducible apply lm_sL); exact rfl)
    | ((with_reducible apply lm_sP); exact rfl; exact rfl)
    | ((with_reducible apply lm_sPL); exact rfl; exact rfl)
    | ((with_reducible apply lm_sAA); exact rfl; first | exact rfl | exact lm_roO (by omega) | exact lm_roM (by omega))
    | ((with_reducible apply lm_sI); exact lm_fpL (by omega))
    | ((with_reducible apply lm_sR); exact lm_fpB (by omega))
    | ((with_reducible apply lm_sP); exact lm_fpL (by omega); exact rfl)
    | ((with_reducible apply lm_sS); exact lm_ocO (by omega); exact rfl)
    | ((with_reducible apply lm_sA); exact rfl; omega)
    | ((with_reducible apply lm_sJ); exact rfl; omega)
    | ((with_reducible apply lm_sB); (first | exact rfl | exact lm_arB (by omega) | exact lm_arM (by omega)); omega)
    | ((with_reducible apply lm_wA); exact rfl; omega)
    | ((with_reducible apply lm_wJ); exact rfl; omega)
    | ((with_reducible apply lm_wB); (first | exact rfl | exact lm_arB (by omega) | exact lm_arM (by omega)); omega)
    | ((with_reducible apply lm_sAl); (first | exact rfl | exact lm_arB (by omega) | exact lm_arM (by omega)); omega)
    | ((with_reducible apply lm_iW); decide))
      refine lm_cV c3 ?_
      repeat (first
    | ((with_reducible apply lm_sI); exact rfl)
    | ((with_reducible apply lm_sR); exact rfl)
    | ((with_reducible apply lm_sS); exact rfl; exact rfl)
    | ((with_reducible apply lm_sL); exact rfl)
    | ((with_reducible apply lm_sP); exact rfl; exact rfl)
    | ((with_reducible apply lm_sPL); exact rfl; exact rfl)
    | ((with_reducible apply lm_sAA); exact rfl; first | exact rfl | exact lm_roO (by omega) | exact lm_roM (by omega))
    | ((with_reducible apply lm_sI); exact lm_fpL (by omega))
    | ((with_reducible apply lm_sR); exact lm_fpB (by omega))
    | ((with_reducible apply lm_sP); exact lm_fpL (by omega); exact rfl)
    | ((with_reducible apply lm_sS); exact lm_ocO (by omega); exact rfl)
    | ((with_reducible apply lm_sA); exact rfl; omega)
    | ((with_reducible apply lm_sJ); exact rfl; omega)
    | ((with_reducible apply lm_sB); (first | exact rfl | exact lm_arB (by omega) | exact lm_arM (by omega)); omega)
    | ((with_reducible apply lm_wA); exact rfl; omega)
    | ((with_reducible apply lm_wJ); exact rfl; omega)
    | ((with_reducible apply lm_wB); (first | exact rfl | exact lm_arB (by omega) | exact lm_arM (by omega)); omega)
    | ((with_reducible apply lm_sAl); (first | exact rfl | exact lm_arB (by omega) | exact lm_arM (by omega)); omega)
    | ((with_reducible apply lm_iW); decide))
      simp only [Nat.reduceDiv, Nat.reduceMod]
      rw [F3f.1]
      refine lm_cV c4 ?_
      exact e276
    · rw [← eM, lm_fl_in (by omega), Nat.sub_zero]
      rfl
  · have esk : lm_sk s = false := decide_eq_false c
    have hkk := lm_wk_f c
    have hlg := lm_lrg hs c
    unfold lm_rnd
    rw [esk]
    generalize lm_wk s = k at *
    obtain ⟨k1, k6, k12, kr1, kr2, kd1, kd2⟩ := lm_wk_r hkk
    generalize eG : lm_tri3 (lm_rate k) (lm_sn s) (lm_kg (lm_sn s) K) Rn Sg = G
    have G0 : ∀ t, t < lm_rate k → G t = lm_kg (lm_sn s) K t := fun t ht => by rw [← eG]; exact lm_tri3_0 ht
    have G1 : ∀ t, t < lm_sn s → G (lm_rate k + t) = Rn t := fun t ht => by rw [← eG]; exact lm_tri3_1 ht
    have G2 : ∀ t, G (lm_rate k + lm_sn s + t) = Sg t := fun t => by rw [← eG]; exact lm_tri3_2
    obtain ⟨m4, n4, c4, s4, b4, f4⟩ := lm_u64k (sc := sc) (d := d + 19) (x := x) (m := m2) (n := n2) (k := k) (G := G) (K := K) (q := 208) (v := 65536) (a := lm_sn s) (l := lm_sn s) C2 hkk (by decide) rfl (by omega) (by decide) hpar.1 (fun t ht => by rw [k2 208 (by decide) (by decide) (by decide) (by decide)]; exact hK t ht) G0
    have g4 : lm_fG m2 n2 m4 n4 := ⟨f4.2.1, fun q h1 h2 h3 h4 h5 _ => f4.2.2 q h1 h2 h3 h4 h5⟩
    have C4 : lm_cx m4 n4 = C := (g4.cx (f4.1 221 (by decide) (by decide) (by decide) (by decide))).trans C2
    obtain ⟨m5, n5, c5, s5, f5⟩ := lm_rA (sc := sc) (d := d + 21) (x := x) (q := 360) (v := 32) (a := 0) (l := lm_sn s) C4 k12 (by decide) rfl (by omega) (by decide) (fun t ht => by rw [f4.1 360 (by decide) (by decide) (by decide) (by decide), Nat.zero_add, v2 t ht, G1 t ht]) s4
    have k5 : ∀ r, r ≠ 203 → r ≠ 227 → r ≠ 228 → r ≠ 229 → r ≠ 329 → r ≠ 360 → m5 r = m r := fun r h1 h2 h3 h4 h5 h6 => by rw [f5.1 r h1 h2, f4.1 r h1 h2 h3 h4, k2 r h1 h2 h5 h6]
    obtain ⟨m6, n6, c6, s6, f6⟩ := lm_u113 (sc := sc) (d := d + 20) (x := x) (m := m5) (n := n5) (X := X) (Mg := Mg) (f5.cx.trans C4) k12 hk hxk (by rw [k5 214 (by decide) (by decide) (by decide) (by decide) (by decide) (by decide)]; exact a1) (by rw [k5 214 (by decide) (by decide) (by decide) (by decide) (by decide) (by decide)]; exact a2) hml (by rw [k5 210 (by decide) (by decide) (by decide) (by decide) (by decide) (by decide)]; exact a3) (by rw [k5 209 (by decide) (by decide) (by decide) (by decide) (by decide) (by decide)]; exact a4) (fun h t ht => by rw [f5.1 329 (by decide) (by decide), f4.1 329 (by decide) (by decide) (by decide) (by decide)]; exact w2 h t ht) (fun t ht => by rw [G2, a5 t ht]) s5
    have F6 := f5.tr f6
    have C6 : lm_cx m6 n6 = C := F6.cx.trans C4
    obtain ⟨hh, s60, s61, s62⟩ := s6
    have eT : lm_tb m6 n6 = C.1 := by rw [← C6]; rfl
    obtain ⟨m7, n7, c7, f7⟩ := lm_u65 (sc := sc) (d := d + 19) (x := x) (m := m6) (n := n6) (b := k) (h := hh) (q := 265) (v := 65536) (a := 0) (L := lm_sn s) (h0 := lm_ms0 C k) (J := fun _ => 0) (bb := fun _ => 0) (kb := lm_kyx (lm_sn s) K) (hc := lm_MS C k G (lm_rate k + lm_sn s + lm_sgl kk xl ml)) k1 k6 (by decide) rfl (by omega) (by decide) (by omega) (by rw [← C6]; rfl) (fun i hi => by rw [F6.1 228 (by decide) (by decide), ← b4 i hi, lm_b8b8]) s61 s60 s62
    rw [eT] at c7
    generalize eM : lm_fil m7 265 0 (0 + lm_sn s) (fun i => lm_ou C.1 k (lm_rate k) (lm_hf C.1 k (lm_rate k) (lm_mo C.1 k (lm_kyx (lm_sn s) K) (lm_MS C k G (lm_rate k + lm_sn s + lm_sgl kk xl ml)) (lm_ms0 C k))).2.2.1 (i - 0)) = M at c7
    have rM : ∀ r, r ≠ 265 → M r = m7 r := fun r hr => by rw [← eM, lm_fl_row hr]
    have g7 : lm_fG m6 n6 m7 n7 := ⟨f7.2.1, fun q h1 h2 h3 h4 h5 _ => f7.2.2 q h1 h2 h3 h4 h5⟩
    refine ⟨M, n7, fun R KK => ?_, fun r h1 h2 h3 h4 h5 h6 h7 => by rw [rM r h5, f7.1 r h1 h2 h3 h4, F6.1 r h1 h2, f4.1 r h1 h2 h3 h4, k2 r h1 h2 h6 h7], (g1.tr g2).tr (g4.tr (F6.G.tr (g7.tr (lm_fG.of (rM 203 (by decide)))))), fun t ht => ?_⟩
    · have F4f := ((g1.tr g2).tr g4).RF hF
      have F6f := ((g1.tr g2).tr (g4.tr F6.G)).RF hF
      have u112 := lm_u112 (sc := sc) (d := d + 24) (n := n2) (x := x) F2
      have u112' := lm_u112 (sc := sc) (d := d + 24) (m := m6) (n := n6) (x := x) F6f
      rw [hlg] at u112 u112'
      clear G0 G1 G2 hK hR v1 v2 w2 a3 a4 a5 eM b4
      have e276 : lm_rn sc (d + 25) lm_m36.2.2.2.2.1 (lm_reg lm_m36.2.2.2.2.2) (276, [(0, .ref 203), (2, .int (ln_kd kk))], []) (lm_w m4 n4 x) = some R := by
        refine lm_e36_276 ?_
        unfold lm_q36_276
        rw [lm_K0]
        repeat (first
    | ((with_reducible apply lm_sI); exact rfl)
    | ((with_reducible apply lm_sR); exact rfl)
    | ((with_reducible apply lm_sS); exact rfl; exact rfl)
    | ((with_reducible apply lm_sL); exact rfl)
    | ((with_reducible apply lm_sP); exact rfl; exact rfl)
    | ((with_reducible apply lm_sPL); exact rfl; exact rfl)
    | ((with_reducible apply lm_sAA); exact rfl; first | exact rfl | exact lm_roO (by omega) | exact lm_roM (by omega))
    | ((with_reducible apply lm_sI); exact lm_fpL (by omega))
    | ((with_reducible apply lm_sR); exact lm_fpB (by omega))
    | ((with_reducible apply lm_sP); exact lm_fpL (by omega); exact rfl)
    | ((with_reducible apply lm_sS); exact lm_ocO (by omega); exact rfl)
    | ((with_reducible apply lm_sA); exact rfl; omega)
    | ((with_reducible apply lm_sJ); exact rfl; omega)
    | ((with_reducible apply lm_sB); (first | exact rfl | exact lm_arB (by omega) | exact lm_arM (by omega)); omega)
    | ((with_reducible apply lm_wA); exact rfl; omega)
    | ((with_reducible apply lm_wJ); exact rfl; omega)
    | ((with_reducible apply lm_wB); (first | exact rfl | exact lm_arB (by omega) | exact lm_arM (by omega)); omega)
    | ((with_reducible apply lm_sAl); (first | exact rfl | exact lm_arB (by omega) | exact lm_arM (by omega)); omega)
    | ((with_reducible apply lm_iW); decide))
        simp only [Nat.reduceDiv, Nat.reduceMod]
        rw [F4f.1]
        refine lm_cV c5 ?_
        repeat (first
    | ((with_reducible apply lm_sI); exact rfl)
    | ((with_reducible apply lm_sR); exact rfl)
    | ((with_reducible apply lm_sS); exact rfl; exact rfl)
    | ((with_reducible apply lm_sL); exact rfl)
    | ((with_reducible apply lm_sP); exact rfl; exact rfl)
    | ((with_reducible apply lm_sPL); exact rfl; exact rfl)
    | ((with_reducible apply lm_sAA); exact rfl; first | exact rfl | exact lm_roO (by omega) | exact lm_roM (by omega))
    | ((with_reducible apply lm_sI); exact lm_fpL (by omega))
    | ((with_reducible apply lm_sR); exact lm_fpB (by omega))
    | ((with_reducible apply lm_sP); exact lm_fpL (by omega); exact rfl)
    | ((with_reducible apply lm_sS); exact lm_ocO (by omega); exact rfl)
    | ((with_reducible apply lm_sA); exact rfl; omega)
    | ((with_reducible apply lm_sJ); exact rfl; omega)
    | ((with_reducible apply lm_sB); (first | exact rfl | exact lm_arB (by omega) | exact lm_arM (by omega)); omega)
    | ((with_reducible apply lm_wA); exact rfl; omega)
    | ((with_reducible apply lm_wJ); exact rfl; omega)
    | ((with_reducible apply lm_wB); (first | exact rfl | exact lm_arB (by omega) | exact lm_arM (by omega)); omega)
    | ((with_reducible apply lm_sAl); (first | exact rfl | exact lm_arB (by omega) | exact lm_arM (by omega)); omega)
    | ((with_reducible apply lm_iW); decide))
        refine lm_cV c6 ?_
        refine lm_sIz rfl ?_
        simp only [Nat.reduceDiv, Nat.reduceMod]
        rw [F6f.2.2.2.2.2.2.2, esk]
        refine lm_iT (show (0 : Int32) = 0 by decide) ?_
        repeat (first
    | ((with_reducible apply lm_sI); exact rfl)
    | ((with_reducible apply lm_sR); exact rfl)
    | ((with_reducible apply lm_sS); exact rfl; exact rfl)
    | ((with_reducible apply lm_sL); exact rfl)
    | ((with_reducible apply lm_sP); exact rfl; exact rfl)
    | ((with_reducible apply lm_sPL); exact rfl; exact rfl)
    | ((with_reducible apply lm_sAA); exact rfl; first | exact rfl | exact lm_roO (by omega) | exact lm_roM (by omega))
    | ((with_reducible apply lm_sI); exact lm_fpL (by omega))
    | ((with_reducible apply lm_sR); exact lm_fpB (by omega))
    | ((with_reducible apply lm_sP); exact lm_fpL (by omega); exact rfl)
    | ((with_reducible apply lm_sS); exact lm_ocO (by omega); exact rfl)
    | ((with_reducible apply lm_sA); exact rfl; omega)
    | ((with_reducible apply lm_sJ); exact rfl; omega)
    | ((with_reducible apply lm_sB); (first | exact rfl | exact lm_arB (by omega) | exact lm_arM (by omega)); omega)
    | ((with_reducible apply lm_wA); exact rfl; omega)
    | ((with_reducible apply lm_wJ); exact rfl; omega)
    | ((with_reducible apply lm_wB); (first | exact rfl | exact lm_arB (by omega) | exact lm_arM (by omega)); omega)
    | ((with_reducible apply lm_sAl); (first | exact rfl | exact lm_arB (by omega) | exact lm_arM (by omega)); omega)
    | ((with_reducible apply lm_iW); decide))
        refine lm_cI u112' ?_
        repeat (first
    | ((with_reducible apply lm_sI); exact rfl)
    | ((with_reducible apply lm_sR); exact rfl)
    | ((with_reducible apply lm_sS); exact rfl; exact rfl)
    | ((with_reducible apply lm_sL); exact rfl)
    | ((with_reducible apply lm_sP); exact rfl; exact rfl)
    | ((with_reducible apply lm_sPL); exact rfl; exact rfl)
    | ((with_reducible apply lm_sAA); exact rfl; first | exact rfl | exact lm_roO (by omega) | exact lm_roM (by omega))
    | ((with_reducible apply lm_sI); exact lm_fpL (by omega))
    | ((with_reducible apply lm_sR); exact lm_fpB (by omega))
    | ((with_reducible apply lm_sP); exact lm_fpL (by omega); exact rfl)
    | ((with_reducible apply lm_sS); exact lm_ocO (by omega); exact rfl)
    | ((with_reducible apply lm_sA); exact rfl; omega)
    | ((with_reducible apply lm_sJ); exact rfl; omega)
    | ((with_reducible apply lm_sB); (first | exact rfl | exact lm_arB (by omega) | exact lm_arM (by omega)); omega)
    | ((with_reducible apply lm_wA); exact rfl; omega)
    | ((with_reducible apply lm_wJ); exact rfl; omega)
    | ((with_reducible apply lm_wB); (first | exact rfl | exact lm_arB (by omega) | exact lm_arM (by omega)); omega)
    | ((with_reducible apply lm_sAl); (first | exact rfl | exact lm_arB (by omega) | exact lm_arM (by omega)); omega)
    | ((with_reducible apply lm_iW); decide))
        simp only [Nat.reduceDiv, Nat.reduceMod]
        rw [F6f.1]
        refine lm_cV c7 ?_
        exact KK
      refine lm_e36_202 ?_
      unfold lm_q36_202
      rw [lm_K0, lm_K2]
      repeat (first
    | ((with_reducible apply lm_sI); exact rfl)
    | ((with_reducible apply lm_sR); exact rfl)
    | ((with_reducible apply lm_sS); exact rfl; exact rfl)
    | ((with_reducible apply lm_sL); exact rfl)
    | ((with_reducible apply lm_sP); exact rfl; exact rfl)
    | ((with_reducible apply lm_sPL); exact rfl; exact rfl)
    | ((with_reducible apply lm_sAA); exact rfl; first | exact rfl | exact lm_roO (by omega) | exact lm_roM (by omega))
    | ((with_reducible apply lm_sI); exact lm_fpL (by omega))
    | ((with_reducible apply lm_sR); exact lm_fpB (by omega))
    | ((with_reducible apply lm_sP); exact lm_fpL (by omega); exact rfl)
    | ((with_reducible apply lm_sS); exact lm_ocO (by omega); exact rfl)
    | ((with_reducible apply lm_sA); exact rfl; omega)
    | ((with_reducible apply lm_sJ); exact rfl; omega)
    | ((with_reducible apply lm_sB); (first | exact rfl | exact lm_arB (by omega) | exact lm_arM (by omega)); omega)
    | ((with_reducible apply lm_wA); exact rfl; omega)
    | ((with_reducible apply lm_wJ); exact rfl; omega)
    | ((with_reducible apply lm_wB); (first | exact rfl | exact lm_arB (by omega) | exact lm_arM (by omega)); omega)
    | ((with_reducible apply lm_sAl); (first | exact rfl | exact lm_arB (by omega) | exact lm_arM (by omega)); omega)
    | ((with_reducible apply lm_iW); decide))
      simp only [Nat.reduceDiv, Nat.reduceMod]
      rw [hF.1]
      refine lm_cV u1 ?_
      repeat (first
    | ((with_reducible apply lm_sI); exact rfl)
    | ((with_reducible apply lm_sR); exact rfl)
    | ((with_reducible apply lm_sS); exact rfl; exact rfl)
    | ((with_reducible apply lm_sL); exact rfl)
    | ((with_reducible apply lm_sP); exact rfl; exact rfl)
    | ((with_reducible apply lm_sPL); exact rfl; exact rfl)
    | ((with_reducible apply lm_sAA); exact rfl; first | exact rfl | exact lm_roO (by omega) | exact lm_roM (by omega))
    | ((with_reducible apply lm_sI); exact lm_fpL (by omega))
    | ((with_reducible apply lm_sR); exact lm_fpB (by omega))
    | ((with_reducible apply lm_sP); exact lm_fpL (by omega); exact rfl)
    | ((with_reducible apply lm_sS); exact lm_ocO (by omega); exact rfl)
    | ((with_reducible apply lm_sA); exact rfl; omega)
    | ((with_reducible apply lm_sJ); exact rfl; omega)
    | ((with_reducible apply lm_sB); (first | exact rfl | exact lm_arB (by omega) | exact lm_arM (by omega)); omega)
    | ((with_reducible apply lm_wA); exact rfl; omega)
    | ((with_reducible apply lm_wJ); exact rfl; omega)
    | ((with_reducible apply lm_wB); (first | exact rfl | exact lm_arB (by omega) | exact lm_arM (by omega)); omega)
    | ((with_reducible apply lm_sAl); (first | exact rfl | exact lm_arB (by omega) | exact lm_arM (by omega)); omega)
    | ((with_reducible apply lm_iW); decide))
      refine lm_cV c2 ?_
      refine lm_sIz rfl ?_
      simp only [Nat.reduceDiv, Nat.reduceMod]
      rw [F2.2.2.2.2.2.2.2, esk]
      refine lm_iT (show (0 : Int32) = 0 by decide) ?_
      repeat (first
    | ((with_reducible apply lm_sI); exact rfl)
    | ((with_reducible apply lm_sR); exact rfl)
    | ((with_reducible apply lm_sS); exact rfl; exact rfl)
    | ((with_reducible apply lm_sL); exact rfl)
    | ((with_reducible apply lm_sP); exact rfl; exact rfl)
    | ((with_reducible apply lm_sPL); exact rfl; exact rfl)
    | ((with_reducible apply lm_sAA); exact rfl; first | exact rfl | exact lm_roO (by omega) | exact lm_roM (by omega))
    | ((with_reducible apply lm_sI); exact lm_fpL (by omega))
    | ((with_reducible apply lm_sR); exact lm_fpB (by omega))
    | ((with_reducible apply lm_sP); exact lm_fpL (by omega); exact rfl)
    | ((with_reducible apply lm_sS); exact lm_ocO (by omega); exact rfl)
    | ((with_reducible apply lm_sA); exact rfl; omega)
    | ((with_reducible apply lm_sJ); exact rfl; omega)
    | ((with_reducible apply lm_sB); (first | exact rfl | exact lm_arB (by omega) | exact lm_arM (by omega)); omega)
    | ((with_reducible apply lm_wA); exact rfl; omega)
    | ((with_reducible apply lm_wJ); exact rfl; omega)
    | ((with_reducible apply lm_wB); (first | exact rfl | exact lm_arB (by omega) | exact lm_arM (by omega)); omega)
    | ((with_reducible apply lm_sAl); (first | exact rfl | exact lm_arB (by omega) | exact lm_arM (by omega)); omega)
    | ((with_reducible apply lm_iW); decide))
      refine lm_cI u112 ?_
      repeat (first
    | ((with_reducible apply lm_sI); exact rfl)
    | ((with_reducible apply lm_sR); exact rfl)
    | ((with_reducible apply lm_sS); exact rfl; exact rfl)
    | ((with_reducible apply lm_sL); exact rfl)
    | ((with_reducible apply lm_sP); exact rfl; exact rfl)
    | ((with_reducible apply lm_sPL); exact rfl; exact rfl)
    | ((with_reducible apply lm_sAA); exact rfl; first | exact rfl | exact lm_roO (by omega) | exact lm_roM (by omega))
    | ((with_reducible apply lm_sI); exact lm_fpL (by omega))
    | ((with_reducible apply lm_sR); exact lm_fpB (by omega))
    | ((with_reducible apply lm_sP); exact lm_fpL (by omega); exact rfl)
    | ((with_reducible apply lm_sS); exact lm_ocO (by omega); exact rfl)
    | ((with_reducible apply lm_sA); exact rfl; omega)
    | ((with_reducible apply lm_sJ); exact rfl; omega)
    | ((with_reducible apply lm_sB); (first | exact rfl | exact lm_arB (by omega) | exact lm_arM (by omega)); omega)
    | ((with_reducible apply lm_wA); exact rfl; omega)
    | ((with_reducible apply lm_wJ); exact rfl; omega)
    | ((with_reducible apply lm_wB); (first | exact rfl | exact lm_arB (by omega) | exact lm_arM (by omega)); omega)
    | ((with_reducible apply lm_sAl); (first | exact rfl | exact lm_arB (by omega) | exact lm_arM (by omega)); omega)
    | ((with_reducible apply lm_iW); decide))
      simp only [Nat.reduceDiv, Nat.reduceMod]
      rw [F2.1]
      refine lm_cV c4 ?_
      exact e276
    · rw [← eM, lm_fl_in (by omega), Nat.sub_zero]
      rfl
end LMUK
