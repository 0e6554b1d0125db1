/-! ===== SLH of the class: the digest that chooses ===== -/
def lm_plY (C : lm_CX) (s : Nat) (Rb QR Sg : Nat → Int32) (sl t : Nat) : Int32 := lm_b8 (lm_Hm C (lm_wk s) (lm_tri3 (lm_sn s) (2 * lm_sn s) Rb QR Sg) (lm_sn s + 2 * lm_sn s + sl) t)
def lm_plD (C : lm_CX) (s : Nat) (Rb QR Sg : Nat → Int32) (sl t : Nat) : Int32 := cond (lm_sk s) (lm_plY C s Rb QR Sg sl t) (lm_b8 (lm_mg C.1 (lm_wk s) (lm_MS C (lm_wk s) (lm_tri3 (lm_sn s) (lm_sn s) Rb QR (lm_plY C s Rb QR Sg sl)) (lm_sn s + lm_sn s + lm_dg (lm_wk s))) t))
section LMTM
variable {xs : List Int32} {C : lm_CX} {d s k l a q v kk xl ml : Nat} {m m' : lm_MI} {n n' : lm_ML} {x : lm_H × Nat × Nat} {Sg G QR Rb : Nat → Int32}
theorem lm_u142k {L : Nat} {h : lm_HV} (hC : lm_Cok xs C) (hk : k = 1 ∨ k = 3) (hq : q < 5 ∨ 25 < q) (har : lm_ar q = some (1, v)) (hL : L ≤ v) (hv : v ≤ 70000) (hf : h.1 < lm_rate k) (hS : lm_CS m n k h) : ∃ m' n', lm_cal (lm_sc xs) (d + 5) 142 [.ref 4, .int (Int32.ofNat k), .ref q, .int (Int32.ofNat L)] (lm_w m n x) = some (.ok none, lm_w m' n' x) ∧ (∀ i, i < L → m' q i = lm_mg C.1 k h i) ∧ lm_fq q m n m' n' := by
  rcases hk with e | e
  · subst e
    obtain ⟨c, ht⟩ := (show lm_C11 m n 1 64 h ∧ n 11 3 = h.2.1 from hS)
    exact lm_u142_11 (d := d) hC.1 hq har hL hv hf c ht
  · subst e
    obtain ⟨c, ht⟩ := (show lm_C17 m n 3 128 h ∧ n 17 3 = h.2.1 from hS)
    exact lm_u142_17 (d := d) hC.1 hq har hL hv hf c ht
theorem lm_u259 (hC : lm_Cok xs C) (hs : s ≤ 11) (hF : lm_SF m s) (hr : ln_rt m) (hG : lm_Sgd kk xl ml Sg m) (hsp : lm_spl kk xl ≤ 332) (hml : ml ≤ 65536) {q1 v1 : Nat} (h1 : lm_ar q1 = some (1, v1)) (g1 : 25 < q1) (g1' : q1 ≠ 198) (b1 : lm_sn s ≤ v1) (b1' : v1 ≤ 70000) (hR : ∀ t, t < lm_sn s → lm_b8 (m q1 t) = Rb t) (h2 : lm_ar q = some (1, v)) (g2 : 25 < q) (g2' : q ≠ 198) (b2 : a + 2 * lm_sn s ≤ v) (b2' : v ≤ 70000) (hQ : ∀ t, t < 2 * lm_sn s → lm_b8 (m q (a + t)) = QR t) : ∃ m' n', lm_cal (lm_sc xs) (d + 6) 259 [.ref 194, .ref q1, .ref q, .int (Int32.ofNat a), .ref 42] (lm_w m n x) = some (.ok none, lm_w m' n' x) ∧ (∀ r, (r < 5 ∨ 25 < r) → r ≠ 198 → r ≠ 201 → m' r = m r) ∧ lm_fN m n m' n' ∧ ∀ i, i < lm_fb s + lm_tB s + lm_lb s → lm_b8 (m' 201 i) = lm_plD C s Rb QR Sg (lm_sgl kk xl ml) i := by
  have hpar := lm_spar s hs
  have hp2 := lm_spar2 s hs
  have w3 := lm_wk3 (s := s)
  have wb := lm_k3_b w3
  have e11 : m 194 11 = Int32.ofNat (lm_wk s) := hF.2.2.2.2.2.2.2.2.1
  have u303 : ∀ (M : lm_MI) (N : lm_ML), M 194 = m 194 → lm_cal (lm_sc xs) (d + 5) 303 [.ref 194] (lm_w M N x) = some (.ok (some (.int (Int32.ofNat (lm_fb s)))), lm_w M N x) := fun M N e => lm_u303 (d := d + 4) hs (by unfold lm_SF; rw [e]; exact hF)
  have u304 : ∀ (M : lm_MI) (N : lm_ML), M 194 = m 194 → lm_cal (lm_sc xs) (d + 5) 304 [.ref 194] (lm_w M N x) = some (.ok (some (.int (Int32.ofNat (lm_tB s)))), lm_w M N x) := fun M N e => lm_u304 (d := d + 4) hs (by unfold lm_SF; rw [e]; exact hF)
  unfold lm_plD
  have hY : ∀ t, lm_plY C s Rb QR Sg (lm_sgl kk xl ml) t = lm_b8 (lm_Hm C (lm_wk s) (lm_tri3 (lm_sn s) (2 * lm_sn s) Rb QR Sg) (lm_sn s + 2 * lm_sn s + lm_sgl kk xl ml) t) := fun _ => rfl
  generalize lm_plY C s Rb QR Sg (lm_sgl kk xl ml) = Yf at *
  have hwk : ¬ s < 6 → lm_wk s = 1 ∨ lm_wk s = 3 := lm_wk_f
  have hw12 : s < 6 → lm_wk s = 12 := fun c => by unfold lm_wk; rw [if_pos c]
  generalize lm_wk s = k at *
  generalize eG : lm_tri3 (lm_sn s) (2 * lm_sn s) Rb QR Sg = G at *
  have G0 : ∀ t, t < lm_sn s → G t = Rb t := fun t ht => by rw [← eG]; exact lm_tri3_0 ht
  have G1 : ∀ t, t < 2 * lm_sn s → G (lm_sn s + t) = QR t := fun t ht => by rw [← eG]; exact lm_tri3_1 ht
  have G2 : ∀ t, G (lm_sn s + 2 * lm_sn s + t) = Sg t := fun t => by rw [← eG]; exact lm_tri3_2
  obtain ⟨m1, n1, c1, s1, f1⟩ := lm_cS (xs := xs) (d := d + 2) (x := x) (m := m) (n := n) (k := k) (G := G) hC hr wb.1 wb.2
  obtain ⟨m2, n2, c2, s2, f2⟩ := lm_cA (xs := xs) (d := d + 1) (x := x) (k := k) (q := q1) (v := v1) (a := 0) (l := lm_sn s) (L := 0) (G := G) hC wb.1 wb.2 (by omega) h1 (by omega) b1' (fun t ht => by rw [f1.1 q1 (by omega), Nat.zero_add, hR t ht, G0 t ht]) s1
  rw [Nat.zero_add] at s2
  have F2 := f1.tr f2
  obtain ⟨m3, n3, c3, s3, f3⟩ := lm_cA (xs := xs) (d := d + 1) (x := x) (k := k) (q := q) (v := v) (a := a) (l := 2 * lm_sn s) (L := lm_sn s) (G := G) hC wb.1 wb.2 (by omega) h2 b2 b2' (fun t ht => by rw [F2.1 q (by omega), hQ t ht, G1 t ht]) s2
  have F3 := F2.tr f3
  have hG3 := hG.keep (m' := m3) (fun r hr => F3.1 r (by omega))
  obtain ⟨m4, n4, c4, s4, f4⟩ := lm_u295 (xs := xs) (d := d) (x := x) (k := k) (G := G) hC wb.1 wb.2 hsp hG3.1 hG3.2.1 hG3.2.2.1 hml (fun t ht => by rw [hG3.2.2.2.1 t ht, G2]) (fun hk t ht => by rw [hG3.2.2.2.2 hk t ht, Nat.add_assoc, G2]) s3
  have F4 := F3.tr f4
  have e194 : ∀ M : lm_MI, M 194 = m 194 → M 194 4 = Int32.ofNat (lm_sn s) ∧ M 194 11 = Int32.ofNat k ∧ lm_b1 (M 194 3) = lm_z (lm_sk s) := fun M e => by rw [e]; exact ⟨hF.2.1, e11, hF.1⟩
  have run : ∀ R, (lm_bind (lm_gI 4015 194) fun v14 => lm_if .eq v14 0 (lm_bind (lm_gR 4062 194) fun v15 =>
  lm_bind (lm_gI 4044 194) fun v16 =>
  lm_bind (lm_iald (lm_sc xs) (lm_B + 1) v16) fun v17 =>
  lm_bind (lm_sel [(5, 143), (6, 144), (7, 145)] (some (.ref (lm_obj k)))) fun y18 =>
  lm_bind (lm_asV (lm_cal (lm_sc xs) (d + 5) y18 [.ref (lm_obj k), .ref v15, .int (Int32.ofNat 0), .int v17])) fun _ =>
  lm_bind (lm_gI 4044 194) fun v19 =>
  lm_bind (lm_sel [(5, 200), (6, 201), (7, 202)] (some (.ref (lm_obj k)))) fun y20 =>
  lm_bind (lm_asV (lm_cal (lm_sc xs) (d + 5) y20 [.ref (lm_obj k), .int v19])) fun _ =>
  lm_bind (lm_gI 4016 194) fun v21 =>
  lm_bind (lm_sel [(5, 140), (6, 140), (7, 140)] (some (.ref (lm_obj k)))) fun y22 =>
  lm_bind (lm_asV (lm_cal (lm_sc xs) (d + 5) y22 [.ref (lm_obj k), .ref q1, .int (Int32.ofNat 0), .int v21])) fun _ =>
  lm_bind (lm_gI 4016 194) fun v23 =>
  lm_bind (lm_sel [(5, 140), (6, 140), (7, 140)] (some (.ref (lm_obj k)))) fun y24 =>
  lm_bind (lm_asV (lm_cal (lm_sc xs) (d + 5) y24 [.ref (lm_obj k), .ref q, .int (Int32.ofNat a), .int v23])) fun _ =>
  lm_bind (lm_gR 4062 194) fun v25 =>
  lm_bind (lm_gI 4044 194) fun v26 =>
  lm_bind (lm_iald (lm_sc xs) (lm_B + 1) v26) fun v27 =>
  lm_bind (lm_sel [(5, 140), (6, 140), (7, 140)] (some (.ref (lm_obj k)))) fun y28 =>
  lm_bind (lm_asV (lm_cal (lm_sc xs) (d + 5) y28 [.ref (lm_obj k), .ref v25, .int (Int32.ofNat 0), .int v27])) fun _ =>
  lm_bind (lm_gR 4002 194) fun v29 =>
  lm_bind (lm_gI 4044 194) fun v30 =>
  lm_bind (lm_gR 4074 194) fun v31 =>
  lm_bind (lm_sel [(2, 142)] (some (.ref v29))) fun y32 =>
  lm_bind (lm_asV (lm_cal (lm_sc xs) (d + 5) y32 [.ref v29, .int v30, .ref v31, .int (Int32.ofNat (lm_fb s + lm_tB s + 2))])) fun _ =>
  lm_ret none) (lm_bind (lm_gR 4074 194) fun v33 =>
  lm_bind (lm_sel [(5, 143), (6, 144), (7, 145)] (some (.ref (lm_obj k)))) fun y34 =>
  lm_bind (lm_asV (lm_cal (lm_sc xs) (d + 5) y34 [.ref (lm_obj k), .ref v33, .int (Int32.ofNat 0), .int (Int32.ofNat (lm_fb s + lm_tB s + 2))])) fun _ =>
  lm_ret none)) (lm_w m4 n4 x) = some R → lm_cal (lm_sc xs) (d + 6) 259 [.ref 194, .ref q1, .ref q, .int (Int32.ofNat a), .ref 42] (lm_w m n x) = some R := by
    intro R KK
    clear G0 G1 G2 hR hQ hY
    refine lm_cal_of (Y := lm_m259) rfl rfl (lm_e259_0 ?_)
    unfold lm_q259_0
    rw [lm_K0, lm_K2]
    repeat (first
    | ((with_reducible apply lm_sI); exact rfl)
    | ((with_reducible apply lm_sR); exact rfl)
    | ((with_reducible apply lm_sS); exact rfl; exact rfl)
    | ((with_reducible apply lm_sL); exact rfl)
    | ((with_reducible apply lm_sP); exact rfl; exact rfl)
    | ((with_reducible apply lm_sPL); exact rfl; exact rfl)
    | ((with_reducible apply lm_sAA); exact rfl; exact rfl)
    | ((with_reducible apply lm_sA); (first | exact rfl | assumption); omega)
    | ((with_reducible apply lm_sJ); (first | exact rfl | assumption); omega)
    | ((with_reducible apply lm_sB); (first | exact rfl | assumption); omega)
    | ((with_reducible apply lm_wA); (first | exact rfl | assumption); omega)
    | ((with_reducible apply lm_wJ); (first | exact rfl | assumption); omega)
    | ((with_reducible apply lm_wB); (first | exact rfl | assumption); omega)
    | ((with_reducible apply lm_sAl); (first | exact rfl | assumption); omega)
    | ((with_reducible apply lm_iW); decide))
    simp only [Nat.reduceDiv, Nat.reduceMod]
    rw [e11]
    refine lm_cR c1 ?_
    repeat (first
    | ((with_reducible apply lm_sI); exact rfl)
    | ((with_reducible apply lm_sR); exact rfl)
    | ((with_reducible apply lm_sS); exact rfl; exact rfl)
    | ((with_reducible apply lm_sL); exact rfl)
    | ((with_reducible apply lm_sP); exact rfl; exact rfl)
    | ((with_reducible apply lm_sPL); exact rfl; exact rfl)
    | ((with_reducible apply lm_sAA); exact rfl; exact rfl)
    | ((with_reducible apply lm_sA); (first | exact rfl | assumption); omega)
    | ((with_reducible apply lm_sJ); (first | exact rfl | assumption); omega)
    | ((with_reducible apply lm_sB); (first | exact rfl | assumption); omega)
    | ((with_reducible apply lm_wA); (first | exact rfl | assumption); omega)
    | ((with_reducible apply lm_wJ); (first | exact rfl | assumption); omega)
    | ((with_reducible apply lm_wB); (first | exact rfl | assumption); omega)
    | ((with_reducible apply lm_sAl); (first | exact rfl | assumption); omega)
    | ((with_reducible apply lm_iW); decide))
    simp only [Nat.reduceDiv, Nat.reduceMod]
    rw [(e194 m1 (f1.1 194 (by decide))).1]
    refine lm_selA wb.1 wb.2 ?_
    refine lm_cV c2 ?_
    repeat (first
    | ((with_reducible apply lm_sI); exact rfl)
    | ((with_reducible apply lm_sR); exact rfl)
    | ((with_reducible apply lm_sS); exact rfl; exact rfl)
    | ((with_reducible apply lm_sL); exact rfl)
    | ((with_reducible apply lm_sP); exact rfl; exact rfl)
    | ((with_reducible apply lm_sPL); exact rfl; exact rfl)
    | ((with_reducible apply lm_sAA); exact rfl; exact rfl)
    | ((with_reducible apply lm_sA); (first | exact rfl | assumption); omega)
    | ((with_reducible apply lm_sJ); (first | exact rfl | assumption); omega)
    | ((with_reducible apply lm_sB); (first | exact rfl | assumption); omega)
    | ((with_reducible apply lm_wA); (first | exact rfl | assumption); omega)
    | ((with_reducible apply lm_wJ); (first | exact rfl | assumption); omega)
    | ((with_reducible apply lm_wB); (first | exact rfl | assumption); omega)
    | ((with_reducible apply lm_sAl); (first | exact rfl | assumption); omega)
    | ((with_reducible apply lm_iW); decide))
    simp only [Nat.reduceDiv, Nat.reduceMod]
    rw [(e194 m2 (F2.1 194 (by decide))).1, lm_om]
    refine lm_selA wb.1 wb.2 ?_
    refine lm_cV c3 ?_
    repeat (first
    | ((with_reducible apply lm_sI); exact rfl)
    | ((with_reducible apply lm_sR); exact rfl)
    | ((with_reducible apply lm_sS); exact rfl; exact rfl)
    | ((with_reducible apply lm_sL); exact rfl)
    | ((with_reducible apply lm_sP); exact rfl; exact rfl)
    | ((with_reducible apply lm_sPL); exact rfl; exact rfl)
    | ((with_reducible apply lm_sAA); exact rfl; exact rfl)
    | ((with_reducible apply lm_sA); (first | exact rfl | assumption); omega)
    | ((with_reducible apply lm_sJ); (first | exact rfl | assumption); omega)
    | ((with_reducible apply lm_sB); (first | exact rfl | assumption); omega)
    | ((with_reducible apply lm_wA); (first | exact rfl | assumption); omega)
    | ((with_reducible apply lm_wJ); (first | exact rfl | assumption); omega)
    | ((with_reducible apply lm_wB); (first | exact rfl | assumption); omega)
    | ((with_reducible apply lm_sAl); (first | exact rfl | assumption); omega)
    | ((with_reducible apply lm_iW); decide))
    refine lm_cV c4 ?_
    repeat (first
    | ((with_reducible apply lm_sI); exact rfl)
    | ((with_reducible apply lm_sR); exact rfl)
    | ((with_reducible apply lm_sS); exact rfl; exact rfl)
    | ((with_reducible apply lm_sL); exact rfl)
    | ((with_reducible apply lm_sP); exact rfl; exact rfl)
    | ((with_reducible apply lm_sPL); exact rfl; exact rfl)
    | ((with_reducible apply lm_sAA); exact rfl; exact rfl)
    | ((with_reducible apply lm_sA); (first | exact rfl | assumption); omega)
    | ((with_reducible apply lm_sJ); (first | exact rfl | assumption); omega)
    | ((with_reducible apply lm_sB); (first | exact rfl | assumption); omega)
    | ((with_reducible apply lm_wA); (first | exact rfl | assumption); omega)
    | ((with_reducible apply lm_wJ); (first | exact rfl | assumption); omega)
    | ((with_reducible apply lm_wB); (first | exact rfl | assumption); omega)
    | ((with_reducible apply lm_sAl); (first | exact rfl | assumption); omega)
    | ((with_reducible apply lm_iW); decide))
    refine lm_cI (u303 m4 n4 (F4.1 194 (by decide))) ?_
    repeat (first
    | ((with_reducible apply lm_sI); exact rfl)
    | ((with_reducible apply lm_sR); exact rfl)
    | ((with_reducible apply lm_sS); exact rfl; exact rfl)
    | ((with_reducible apply lm_sL); exact rfl)
    | ((with_reducible apply lm_sP); exact rfl; exact rfl)
    | ((with_reducible apply lm_sPL); exact rfl; exact rfl)
    | ((with_reducible apply lm_sAA); exact rfl; exact rfl)
    | ((with_reducible apply lm_sA); (first | exact rfl | assumption); omega)
    | ((with_reducible apply lm_sJ); (first | exact rfl | assumption); omega)
    | ((with_reducible apply lm_sB); (first | exact rfl | assumption); omega)
    | ((with_reducible apply lm_wA); (first | exact rfl | assumption); omega)
    | ((with_reducible apply lm_wJ); (first | exact rfl | assumption); omega)
    | ((with_reducible apply lm_wB); (first | exact rfl | assumption); omega)
    | ((with_reducible apply lm_sAl); (first | exact rfl | assumption); omega)
    | ((with_reducible apply lm_iW); decide))
    refine lm_cI (u304 m4 n4 (F4.1 194 (by decide))) ?_
    rw [lm_oo, lm_oo]
    exact KK
  by_cases c : s < 6
  · have esk : lm_sk s = true := decide_eq_true c
    have ek := hw12 c
    obtain ⟨m5, n5, c5, f5⟩ := lm_cF (xs := xs) (d := d + 1) (x := x) (k := k) (q := 201) (v := 64) (a := 0) (l := lm_fb s + lm_tB s + 2) hC wb.1 wb.2 (by decide) rfl (by omega) (by decide) (fun h => by omega) s4
    have F5 := F4.tr f5
    generalize eM : lm_fil m5 201 0 (0 + (lm_fb s + lm_tB s + 2)) (fun i => lm_Hm C k G (lm_sn s + 2 * lm_sn s + lm_sgl kk xl ml) (i - 0)) = M at c5
    have rM : ∀ r, r ≠ 201 → M r = m5 r := fun r hr => by rw [← eM, lm_fl_row hr]
    refine ⟨M, n5, run _ ?_, fun r r1 r2 r3 => by rw [rM r r3, F5.1 r (by omega)], ⟨F5.2.1, by rw [rM 11 (by omega)]; exact F5.2.2.1, by rw [rM 17 (by omega)]; exact F5.2.2.2⟩, fun i hi => ?_⟩
    · refine lm_sIz rfl ?_
      simp only [Nat.reduceDiv, Nat.reduceMod]
      rw [(e194 m4 (F4.1 194 (by decide))).2.2, esk]
      refine lm_iF (show ¬ (1 : Int32) = 0 by decide) ?_
      repeat (first
    | ((with_reducible apply lm_sI); exact rfl)
    | ((with_reducible apply lm_sR); exact rfl)
    | ((with_reducible apply lm_sS); exact rfl; exact rfl)
    | ((with_reducible apply lm_sL); exact rfl)
    | ((with_reducible apply lm_sP); exact rfl; exact rfl)
    | ((with_reducible apply lm_sPL); exact rfl; exact rfl)
    | ((with_reducible apply lm_sAA); exact rfl; exact rfl)
    | ((with_reducible apply lm_sA); (first | exact rfl | assumption); omega)
    | ((with_reducible apply lm_sJ); (first | exact rfl | assumption); omega)
    | ((with_reducible apply lm_sB); (first | exact rfl | assumption); omega)
    | ((with_reducible apply lm_wA); (first | exact rfl | assumption); omega)
    | ((with_reducible apply lm_wJ); (first | exact rfl | assumption); omega)
    | ((with_reducible apply lm_wB); (first | exact rfl | assumption); omega)
    | ((with_reducible apply lm_sAl); (first | exact rfl | assumption); omega)
    | ((with_reducible apply lm_iW); decide))
      refine lm_selF wb.1 wb.2 ?_
      exact lm_cV c5 rfl
    · rw [esk, ← eM, lm_fl_in (by omega), Nat.sub_zero]
      exact (hY i).symm
  · have esk : lm_sk s = false := decide_eq_false c
    have hk := hwk c
    obtain ⟨k1, k6, k12, kr1, kr2, kd1, kd2⟩ := lm_wk_r hk
    obtain ⟨m5, n5, c5, f5⟩ := lm_cF (xs := xs) (d := d + 1) (x := x) (k := k) (q := 198) (v := 64) (a := 0) (l := lm_dg k) hC wb.1 wb.2 (by decide) rfl (by omega) (by decide) (lm_dg_k k1 k12) s4
    have F5 := F4.tr f5
    generalize eM : lm_fil m5 198 0 (0 + lm_dg k) (fun i => lm_Hm C k G (lm_sn s + 2 * lm_sn s + lm_sgl kk xl ml) (i - 0)) = M at c5
    have rM : ∀ r, r ≠ 198 → M r = m5 r := fun r hr => by rw [← eM, lm_fl_row hr]
    have rtM : ln_rt M := ⟨by rw [rM 11 (by decide)]; exact F5.2.2.1.trans hr.1, by rw [rM 17 (by decide)]; exact F5.2.2.2.trans hr.2⟩
    generalize eH : lm_tri3 (lm_sn s) (lm_sn s) Rb QR Yf = H
    have H0 : ∀ t, t < lm_sn s → H t = Rb t := fun t ht => by rw [← eH]; exact lm_tri3_0 ht
    have H1 : ∀ t, t < lm_sn s → H (lm_sn s + t) = QR t := fun t ht => by rw [← eH]; exact lm_tri3_1 ht
    have H2 : ∀ t, H (lm_sn s + lm_sn s + t) = Yf t := fun t => by rw [← eH]; exact lm_tri3_2
    obtain ⟨m6, n6, c6, s6, f6⟩ := lm_cSo (xs := xs) (d := d + 3) (x := x) (m := M) (n := n5) (k := k) (G := H) hC rtM k1 k12
    obtain ⟨m7, n7, c7, s7, f7⟩ := lm_cA (xs := xs) (d := d + 1) (x := x) (k := k) (q := q1) (v := v1) (a := 0) (l := lm_sn s) (L := 0) (G := H) hC k1 k12 (by omega) h1 (by omega) b1' (fun t ht => by rw [f6.1 q1 (by omega), rM q1 g1', F5.1 q1 (by omega), Nat.zero_add, hR t ht, H0 t ht]) s6
    rw [Nat.zero_add] at s7
    have F7 := f6.tr f7
    obtain ⟨m8, n8, c8, s8, f8⟩ := lm_cA (xs := xs) (d := d + 1) (x := x) (k := k) (q := q) (v := v) (a := a) (l := lm_sn s) (L := lm_sn s) (G := H) hC k1 k12 (by omega) h2 (by omega) b2' (fun t ht => by rw [F7.1 q (by omega), rM q g2', F5.1 q (by omega), hQ t (by omega), H1 t ht]) s7
    have F8 := F7.tr f8
    obtain ⟨m9, n9, c9, s9, f9⟩ := lm_cA (xs := xs) (d := d + 1) (x := x) (k := k) (q := 198) (v := 64) (a := 0) (l := lm_dg k) (L := lm_sn s + lm_sn s) (G := H) hC k1 k12 (by decide) rfl (by omega) (by decide) (fun t ht => by rw [F8.1 198 (by decide), ← eM, Nat.zero_add, lm_fl_in (by omega), Nat.sub_zero, H2, hY, Nat.zero_add]) s8
    have F9 := F8.tr f9
    obtain ⟨mA, nA, cA, vA, fA⟩ := lm_u142k (xs := xs) (d := d) (x := x) (m := m9) (n := n9) (k := k) (q := 201) (v := 64) (L := lm_fb s + lm_tB s + 2) hC hk (by decide) rfl (by omega) (by decide) lm_MS_lt s9
    have d9 : ∀ (M' : lm_MI) (N' : lm_ML), lm_fC M n5 M' N' → M' 194 = m 194 := fun M' N' g => by rw [g.1 194 (by decide), rM 194 (by decide), F5.1 194 (by decide)]
    refine ⟨mA, nA, run _ ?_, fun r r1 r2 r3 => by rw [fA.1 r r3 r1, F9.1 r (by omega), rM r r2, F5.1 r (by omega)], ⟨fun r hr => by rw [fA.2.1 r hr, F9.2.1 r hr, F5.2.1 r hr], by rw [fA.2.2.1, F9.2.2.1, rM 11 (by decide), F5.2.2.1], by rw [fA.2.2.2, F9.2.2.2, rM 17 (by decide), F5.2.2.2]⟩, fun i hi => ?_⟩
    · clear G0 G1 G2 H0 H1 H2 hR hQ hY vA eM eH run
      refine lm_sIz rfl ?_
      simp only [Nat.reduceDiv, Nat.reduceMod]
      rw [(e194 m4 (F4.1 194 (by decide))).2.2, esk]
      refine lm_iT (show (0 : Int32) = 0 by decide) ?_
      repeat (first
    | ((with_reducible apply lm_sI); exact rfl)
    | ((with_reducible apply lm_sR); exact rfl)
    | ((with_reducible apply lm_sS); exact rfl; exact rfl)
    | ((with_reducible apply lm_sL); exact rfl)
    | ((with_reducible apply lm_sP); exact rfl; exact rfl)
    | ((with_reducible apply lm_sPL); exact rfl; exact rfl)
    | ((with_reducible apply lm_sAA); exact rfl; exact rfl)
    | ((with_reducible apply lm_sA); (first | exact rfl | assumption); omega)
    | ((with_reducible apply lm_sJ); (first | exact rfl | assumption); omega)
    | ((with_reducible apply lm_sB); (first | exact rfl | assumption); omega)
    | ((with_reducible apply lm_wA); (first | exact rfl | assumption); omega)
    | ((with_reducible apply lm_wJ); (first | exact rfl | assumption); omega)
    | ((with_reducible apply lm_wB); (first | exact rfl | assumption); omega)
    | ((with_reducible apply lm_sAl); (first | exact rfl | assumption); omega)
    | ((with_reducible apply lm_iW); decide))
      simp only [Nat.reduceDiv, Nat.reduceMod]
      rw [(e194 m4 (F4.1 194 (by decide))).2.1]
      refine lm_sSI k1 k12 ?_
      refine lm_selF k1 k12 ?_
      refine lm_cV c5 ?_
      repeat (first
    | ((with_reducible apply lm_sI); exact rfl)
    | ((with_reducible apply lm_sR); exact rfl)
    | ((with_reducible apply lm_sS); exact rfl; exact rfl)
    | ((with_reducible apply lm_sL); exact rfl)
    | ((with_reducible apply lm_sP); exact rfl; exact rfl)
    | ((with_reducible apply lm_sPL); exact rfl; exact rfl)
    | ((with_reducible apply lm_sAA); exact rfl; exact rfl)
    | ((with_reducible apply lm_sA); (first | exact rfl | assumption); omega)
    | ((with_reducible apply lm_sJ); (first | exact rfl | assumption); omega)
    | ((with_reducible apply lm_sB); (first | exact rfl | assumption); omega)
    | ((with_reducible apply lm_wA); (first | exact rfl | assumption); omega)
    | ((with_reducible apply lm_wJ); (first | exact rfl | assumption); omega)
    | ((with_reducible apply lm_wB); (first | exact rfl | assumption); omega)
    | ((with_reducible apply lm_sAl); (first | exact rfl | assumption); omega)
    | ((with_reducible apply lm_iW); decide))
      simp only [Nat.reduceDiv, Nat.reduceMod]
      rw [(e194 M (by rw [rM 194 (by decide), F5.1 194 (by decide)])).2.1]
      refine lm_selS k1 k12 ?_
      refine lm_cV c6 ?_
      repeat (first
    | ((with_reducible apply lm_sI); exact rfl)
    | ((with_reducible apply lm_sR); exact rfl)
    | ((with_reducible apply lm_sS); exact rfl; exact rfl)
    | ((with_reducible apply lm_sL); exact rfl)
    | ((with_reducible apply lm_sP); exact rfl; exact rfl)
    | ((with_reducible apply lm_sPL); exact rfl; exact rfl)
    | ((with_reducible apply lm_sAA); exact rfl; exact rfl)
    | ((with_reducible apply lm_sA); (first | exact rfl | assumption); omega)
    | ((with_reducible apply lm_sJ); (first | exact rfl | assumption); omega)
    | ((with_reducible apply lm_sB); (first | exact rfl | assumption); omega)
    | ((with_reducible apply lm_wA); (first | exact rfl | assumption); omega)
    | ((with_reducible apply lm_wJ); (first | exact rfl | assumption); omega)
    | ((with_reducible apply lm_wB); (first | exact rfl | assumption); omega)
    | ((with_reducible apply lm_sAl); (first | exact rfl | assumption); omega)
    | ((with_reducible apply lm_iW); decide))
      simp only [Nat.reduceDiv, Nat.reduceMod]
      rw [(e194 m6 (d9 m6 n6 f6)).1]
      refine lm_selA k1 k12 ?_
      refine lm_cV c7 ?_
      repeat (first
    | ((with_reducible apply lm_sI); exact rfl)
    | ((with_reducible apply lm_sR); exact rfl)
    | ((with_reducible apply lm_sS); exact rfl; exact rfl)
    | ((with_reducible apply lm_sL); exact rfl)
    | ((with_reducible apply lm_sP); exact rfl; exact rfl)
    | ((with_reducible apply lm_sPL); exact rfl; exact rfl)
    | ((with_reducible apply lm_sAA); exact rfl; exact rfl)
    | ((with_reducible apply lm_sA); (first | exact rfl | assumption); omega)
    | ((with_reducible apply lm_sJ); (first | exact rfl | assumption); omega)
    | ((with_reducible apply lm_sB); (first | exact rfl | assumption); omega)
    | ((with_reducible apply lm_wA); (first | exact rfl | assumption); omega)
    | ((with_reducible apply lm_wJ); (first | exact rfl | assumption); omega)
    | ((with_reducible apply lm_wB); (first | exact rfl | assumption); omega)
    | ((with_reducible apply lm_sAl); (first | exact rfl | assumption); omega)
    | ((with_reducible apply lm_iW); decide))
      simp only [Nat.reduceDiv, Nat.reduceMod]
      rw [(e194 m7 (d9 m7 n7 F7)).1]
      refine lm_selA k1 k12 ?_
      refine lm_cV c8 ?_
      repeat (first
    | ((with_reducible apply lm_sI); exact rfl)
    | ((with_reducible apply lm_sR); exact rfl)
    | ((with_reducible apply lm_sS); exact rfl; exact rfl)
    | ((with_reducible apply lm_sL); exact rfl)
    | ((with_reducible apply lm_sP); exact rfl; exact rfl)
    | ((with_reducible apply lm_sPL); exact rfl; exact rfl)
    | ((with_reducible apply lm_sAA); exact rfl; exact rfl)
    | ((with_reducible apply lm_sA); (first | exact rfl | assumption); omega)
    | ((with_reducible apply lm_sJ); (first | exact rfl | assumption); omega)
    | ((with_reducible apply lm_sB); (first | exact rfl | assumption); omega)
    | ((with_reducible apply lm_wA); (first | exact rfl | assumption); omega)
    | ((with_reducible apply lm_wJ); (first | exact rfl | assumption); omega)
    | ((with_reducible apply lm_wB); (first | exact rfl | assumption); omega)
    | ((with_reducible apply lm_sAl); (first | exact rfl | assumption); omega)
    | ((with_reducible apply lm_iW); decide))
      simp only [Nat.reduceDiv, Nat.reduceMod]
      rw [(e194 m8 (d9 m8 n8 F8)).2.1]
      refine lm_sSI k1 k12 ?_
      refine lm_selA k1 k12 ?_
      refine lm_cV c9 ?_
      repeat (first
    | ((with_reducible apply lm_sI); exact rfl)
    | ((with_reducible apply lm_sR); exact rfl)
    | ((with_reducible apply lm_sS); exact rfl; exact rfl)
    | ((with_reducible apply lm_sL); exact rfl)
    | ((with_reducible apply lm_sP); exact rfl; exact rfl)
    | ((with_reducible apply lm_sPL); exact rfl; exact rfl)
    | ((with_reducible apply lm_sAA); exact rfl; exact rfl)
    | ((with_reducible apply lm_sA); (first | exact rfl | assumption); omega)
    | ((with_reducible apply lm_sJ); (first | exact rfl | assumption); omega)
    | ((with_reducible apply lm_sB); (first | exact rfl | assumption); omega)
    | ((with_reducible apply lm_wA); (first | exact rfl | assumption); omega)
    | ((with_reducible apply lm_wJ); (first | exact rfl | assumption); omega)
    | ((with_reducible apply lm_wB); (first | exact rfl | assumption); omega)
    | ((with_reducible apply lm_sAl); (first | exact rfl | assumption); omega)
    | ((with_reducible apply lm_iW); decide))
      simp only [Nat.reduceDiv, Nat.reduceMod]
      rw [(e194 m9 (d9 m9 n9 F9)).2.1]
      exact lm_cV cA rfl
    · rw [esk, vA i (by omega)]
      rfl
end LMTM
