/-! ===== SLH of the reference: chains, leaves, nodes ===== -/
theorem lm_arW' : ∀ t, t < 16 → lm_ar (335 + t) = some (1, 64) := by decide
theorem ln_roW : ∀ t, t < 16 → ([336, 337, 338, 339, 340, 341, 342, 343, 344, 345, 346, 347, 348, 349, 350, 351] : List Nat)[t]? = some (335 + t + 1) := by decide
def lm_RX (W : lm_WT) (m : lm_MI) (n : lm_ML) : Prop := lm_cx m n = W.1 ∧ lm_RF m W.2.1 ∧ (∀ t, t < lm_sn W.2.1 → lm_b8 (m 358 t) = lm_b8 (W.2.2.1 t)) ∧ (∀ t, t < lm_sn W.2.1 → lm_b8 (m 359 t) = W.2.2.2.1 t) ∧ lm_AR W.2.2.2.2.1 W.2.2.2.2.2.1 W.2.2.2.2.2.2 (m 333) ∧ lm_s3 W.2.2.2.2.1
theorem lm_fG.RF {m m' : lm_MI} {n n' : lm_ML} {s : Nat} (f : lm_fG m n m' n') (h : lm_RF m s) : lm_RF m' s := by
  unfold lm_RF
  rw [f.1 67 (by decide) (by decide) (by decide), f.1 68 (by decide) (by decide) (by decide), f.1 69 (by decide) (by decide) (by decide), f.1 70 (by decide) (by decide) (by decide), f.1 71 (by decide) (by decide) (by decide), f.1 72 (by decide) (by decide) (by decide), f.1 73 (by decide) (by decide) (by decide), f.1 74 (by decide) (by decide) (by decide)]
  exact h
section LMTF
variable {sc : lm_H} {d : Nat} {W : lm_WT} {m m' : lm_MI} {n n' : lm_ML} {x : lm_H × Nat × Nat} {X : Nat → Int32} {ty u y z : Int32} {q v a l p w b : Nat}
theorem lm_RX.keep (h : lm_RX W m n) (f : lm_fG m n m' n') (e1 : m' 221 = m 221) (e2 : m' 358 = m 358) (e3 : m' 359 = m 359) (e4 : m' 333 = m 333) : lm_RX W m' n' := ⟨(f.cx e1).trans h.1, f.RF h.2.1, by rw [e2]; exact h.2.2.1, by rw [e3]; exact h.2.2.2.1, by rw [e4]; exact h.2.2.2.2.1, h.2.2.2.2.2⟩
def lm_okp (p : Nat) : Prop := p ≠ 203 ∧ p ≠ 227 ∧ p ≠ 221 ∧ p ≠ 333 ∧ p ≠ 358 ∧ p ≠ 359
def lm_okq (q : Nat) : Prop := q ≠ 203 ∧ q ≠ 227 ∧ q ≠ 333
theorem lm_rAd_AR {L th tl : Int32} {F : Nat → Int32} (h : ∀ t, t < 32 → lm_b8 (F t) = lm_rAd L th tl ty u y z t) : lm_AR L th tl F := fun t ht => by
  rw [h t (by omega)]
  unfold lm_rAd
  rw [if_pos ht]
/-- an address is set, bytes are hashed under it -/
theorem lm_rth {e : Nat} (hs : W.2.1 ≤ 11) (h : lm_RX W m n) (hty : lm_s3 ty) (hn : lm_sn W.2.1 < l → lm_b8 ty ≠ Int32.ofInt 5 ∧ lm_b8 ty ≠ Int32.ofInt 6) (hq : lm_ar q = some (1, v)) (gq : lm_okq q) (hav : a + l ≤ v) (hv : v ≤ 70000) (hX : ∀ t, t < l → lm_b8 (m q (a + t)) = X t) (hp : lm_ar p = some (1, w)) (gp : lm_okp p) (hbw : b + lm_sn W.2.1 ≤ w) (hw : w ≤ 70000) : ∃ m1 m2 n2, lm_cal sc (e + 1) 179 [.ref 203, .int ty, .int u, .int y, .int z] (lm_w m n x) = some (.ok none, lm_w m1 n x) ∧ lm_cal sc (d + 6) 180 [.ref 203, .ref q, .int (Int32.ofNat a), .int (Int32.ofNat l), .ref p, .int (Int32.ofNat b)] (lm_w m1 n x) = some (.ok none, lm_w m2 n2 x) ∧ m1 203 = m 203 ∧ (∀ r, r ≠ 203 → r ≠ 227 → r ≠ 333 → r ≠ p → m2 r = m r) ∧ lm_fG m n m2 n2 ∧ lm_RX W m2 n2 ∧ (∀ i, i < b ∨ b + lm_sn W.2.1 ≤ i → m2 p i = m p i) ∧ ∀ i, i < lm_sn W.2.1 → lm_b8 (m2 p (b + i)) = lm_hF W ty u y z X l i := by
  obtain ⟨h1, h2, h3, h4, h5, h6⟩ := h
  obtain ⟨g1, g2, g3, g4, g5, g6⟩ := gp
  obtain ⟨m1, c1, f1, a1⟩ := lm_u179 (sc := sc) (d := e) (n := n) (x := x) (ty := ty) (u := u) (y := y) (z := z) h5
  have F1 : lm_fG m n m1 n := lm_fG.of (f1 203 (by decide))
  obtain ⟨m2, n2, c2, f2, F2, o2, v2⟩ := lm_u180 (sc := sc) (d := d) (x := x) (X := X) (P := W.2.2.1) ((F1.cx (f1 221 (by decide))).trans h1) hs (F1.RF h2) h6 hty hn hq ⟨gq.1, gq.2.1⟩ hav hv (fun t ht => by rw [f1 q gq.2.2]; exact hX t ht) hp ⟨g1, g2, g3⟩ hbw hw (by rw [f1 358 (by decide)]; exact h3) a1
  have e333 : m2 333 = m1 333 := f2 333 (by decide) (by decide) (fun e => g4 e.symm)
  refine ⟨m1, m2, n2, c1, c2, f1 203 (by decide), fun r r1 r2 r3 r4 => by rw [f2 r r1 r2 r4, f1 r r3], F1.tr F2, ⟨?_, (F1.tr F2).RF h2, fun t ht => ?_, fun t ht => ?_, ?_, h6⟩, fun i hi => by rw [o2 i hi, f1 p g4], fun i hi => by rw [v2 i hi]; rfl⟩
  · exact ((F1.tr F2).cx (by rw [f2 221 (by decide) (by decide) (fun e => g3 e.symm), f1 221 (by decide)])).trans h1
  · rw [f2 358 (by decide) (by decide) (fun e => g5 e.symm), f1 358 (by decide)]; exact h3 t ht
  · rw [f2 359 (by decide) (by decide) (fun e => g6 e.symm), f1 359 (by decide)]; exact h4 t ht
  · rw [e333]; exact lm_rAd_AR a1
theorem lm_s3c : lm_s3 (Int32.ofNat 0) ∧ lm_s3 (Int32.ofNat 1) ∧ lm_s3 (Int32.ofNat 2) ∧ lm_s3 (Int32.ofNat 3) ∧ lm_s3 (Int32.ofNat 4) ∧ lm_s3 (Int32.ofNat 5) ∧ lm_s3 (Int32.ofNat 6) := ⟨lm_s3n 0 (by decide), lm_s3n 1 (by decide), lm_s3n 2 (by decide), lm_s3n 3 (by decide), lm_s3n 4 (by decide), lm_s3n 5 (by decide), lm_s3n 6 (by decide)⟩
/-- pseudo, behind its address -/
theorem lm_rps (hs : W.2.1 ≤ 11) (h : lm_RX W m n) (hty : lm_s3 ty) (hp : lm_ar p = some (1, w)) (gp : lm_okp p) (hbw : b + lm_sn W.2.1 ≤ w) (hw : w ≤ 70000) : ∃ m1 m2 n2, lm_cal sc (d + 7) 179 [.ref 203, .int ty, .int u, .int y, .int z] (lm_w m n x) = some (.ok none, lm_w m1 n x) ∧ lm_cal sc (d + 7) 186 [.ref 203, .ref p, .int (Int32.ofNat b)] (lm_w m1 n x) = some (.ok none, lm_w m2 n2 x) ∧ m1 203 = m 203 ∧ (∀ r, r ≠ 203 → r ≠ 227 → r ≠ 333 → r ≠ p → m2 r = m r) ∧ lm_fG m n m2 n2 ∧ lm_RX W m2 n2 ∧ (∀ i, i < b ∨ b + lm_sn W.2.1 ≤ i → m2 p i = m p i) ∧ ∀ i, i < lm_sn W.2.1 → lm_b8 (m2 p (b + i)) = lm_hF W ty u y z W.2.2.2.1 (lm_sn W.2.1) i := by
  have hpar := lm_spar _ hs
  obtain ⟨m1, m2, n2, c1, c2, e1, f2, g2, S2, o2, v2⟩ := lm_rth (sc := sc) (d := d) (e := d + 6) (x := x) (q := 359) (v := 32) (a := 0) (l := lm_sn W.2.1) (X := W.2.2.2.1) (ty := ty) (u := u) (y := y) (z := z) hs h hty (fun g => absurd g (Nat.lt_irrefl _)) rfl (by unfold lm_okq; decide) (by omega) (by decide) (fun t ht => by rw [Nat.zero_add]; exact h.2.2.2.1 t ht) hp gp hbw hw
  refine ⟨m1, m2, n2, c1, ?_, e1, f2, g2, S2, o2, v2⟩
  refine lm_cal_of (Y := lm_m186) rfl rfl (lm_e186_0 ?_)
  unfold lm_q186_0
  rw [lm_K0]
  repeat (first
    | ((with_reducible apply lm_sI); exact rfl)
    | ((with_reducible apply lm_sR); exact rfl)
    | ((with_reducible apply lm_sS); exact rfl; exact rfl)
    | ((with_reducible apply lm_sL); exact rfl)
    | ((with_reducible apply lm_sP); exact rfl; exact rfl)
    | ((with_reducible apply lm_sPL); exact rfl; exact rfl)
    | ((with_reducible apply lm_sAA); exact rfl; exact rfl)
    | ((with_reducible apply lm_sA); (first | exact rfl | assumption); omega)
    | ((with_reducible apply lm_sJ); (first | exact rfl | assumption); omega)
    | ((with_reducible apply lm_sB); (first | exact rfl | assumption); omega)
    | ((with_reducible apply lm_wA); (first | exact rfl | assumption); omega)
    | ((with_reducible apply lm_wJ); (first | exact rfl | assumption); omega)
    | ((with_reducible apply lm_wB); (first | exact rfl | assumption); omega)
    | ((with_reducible apply lm_sAl); (first | exact rfl | assumption); omega)
    | ((with_reducible apply lm_iW); decide))
  simp only [Nat.reduceDiv, Nat.reduceMod]
  rw [e1, h.2.1.1]
  exact lm_cV c2 rfl
/-- a chain -/
def lm_I190 (W : lm_WT) (u y : Int32) (X : Nat → Int32) (m0 : lm_MI) (n0 : lm_ML) (p b f j : Nat) (m : lm_MI) (n : lm_ML) : Prop := f ≤ j ∧ lm_RX W m n ∧ (∀ r, r ≠ 203 → r ≠ 227 → r ≠ 333 → r ≠ p → m r = m0 r) ∧ lm_fG m0 n0 m n ∧ (∀ i, i < b ∨ b + lm_sn W.2.1 ≤ i → m p i = m0 p i) ∧ ∀ i, i < lm_sn W.2.1 → lm_b8 (m p (b + i)) = lm_hch W u y f X (j - f) i
theorem lm_u190 {f st : Nat} (hs : W.2.1 ≤ 11) (h : lm_RX W m n) (hf : f + st ≤ 15) (hp : lm_ar p = some (1, w)) (gp : lm_okp p) (hbw : b + lm_sn W.2.1 ≤ w) (hw : w ≤ 70000) (hX : ∀ t, t < lm_sn W.2.1 → lm_b8 (m p (b + t)) = X t) : ∃ m' n', lm_cal sc (d + 7) 190 [.ref 203, .int u, .int y, .int (Int32.ofNat f), .int (Int32.ofNat st), .ref p, .int (Int32.ofNat b)] (lm_w m n x) = some (.ok none, lm_w m' n' x) ∧ (∀ r, r ≠ 203 → r ≠ 227 → r ≠ 333 → r ≠ p → m' r = m r) ∧ lm_fG m n m' n' ∧ lm_RX W m' n' ∧ (∀ i, i < b ∨ b + lm_sn W.2.1 ≤ i → m' p i = m p i) ∧ ∀ i, i < lm_sn W.2.1 → lm_b8 (m' p (b + i)) = lm_hch W u y f X st i := by
  obtain ⟨m2, n2, ⟨_, j2, j3, j4, j5, j6⟩, k2⟩ := lm_lpa (sc := sc) (d := d + 6) (x := x) (hs := lm_m190.2.2.2.2.1) (code := lm_reg lm_m190.2.2.2.2.2) (I := lm_I190 W u y X m n p b f) (fr := fun j => (3, [(0, .ref 203), (1, .int u), (2, .int y), (3, .int (Int32.ofNat f)), (4, .int (Int32.ofNat st)), (5, .ref p), (6, .int (Int32.ofNat b)), (7, .int (Int32.ofNat j))], [])) (Nat.le_add_right f st) (fun j hfj hj m3 n3 ⟨i1, i2, i3, i4, i5, i6⟩ => by
    obtain ⟨m4, m5, n5, c4, c5, e4, f5, g5, S5, o5, v5⟩ := lm_rth (sc := sc) (d := d) (e := d + 5) (x := x) (q := p) (v := w) (a := b) (l := lm_sn W.2.1) (p := p) (w := w) (b := b) (ty := Int32.ofNat 0) (u := u) (y := y) (z := Int32.ofNat j) hs i2 lm_s3c.1 (fun g => absurd g (Nat.lt_irrefl _)) hp ⟨gp.1, gp.2.1, gp.2.2.2.1⟩ hbw hw i6 hp gp hbw hw
    refine ⟨m5, n5, ⟨by omega, S5, fun r r1 r2 r3 r4 => by rw [f5 r r1 r2 r3 r4, i3 r r1 r2 r3 r4], i4.tr g5, fun i hi => by rw [o5 i hi, i5 i hi], fun i hi => ?_⟩, fun R KK => ?_⟩
    · rw [v5 i hi, show j + 1 - f = (j - f) + 1 by omega]
      show _ = lm_hF W (Int32.ofNat 0) u y (Int32.ofNat (f + (j - f))) (lm_hch W u y f X (j - f)) (lm_sn W.2.1) i
      rw [show f + (j - f) = j by omega]
    · clear v5 o5 i6 i5
      refine lm_e190_3 ?_
      unfold lm_q190_3
      rw [lm_K0, lm_K1, lm_oo, lm_oo]
      refine lm_geF (by omega) (by omega) (by omega) ?_
      repeat (first
    | ((with_reducible apply lm_sI); exact rfl)
    | ((with_reducible apply lm_sR); exact rfl)
    | ((with_reducible apply lm_sS); exact rfl; exact rfl)
    | ((with_reducible apply lm_sL); exact rfl)
    | ((with_reducible apply lm_sP); exact rfl; exact rfl)
    | ((with_reducible apply lm_sPL); exact rfl; exact rfl)
    | ((with_reducible apply lm_sAA); exact rfl; exact rfl)
    | ((with_reducible apply lm_sA); (first | exact rfl | assumption); omega)
    | ((with_reducible apply lm_sJ); (first | exact rfl | assumption); omega)
    | ((with_reducible apply lm_sB); (first | exact rfl | assumption); omega)
    | ((with_reducible apply lm_wA); (first | exact rfl | assumption); omega)
    | ((with_reducible apply lm_wJ); (first | exact rfl | assumption); omega)
    | ((with_reducible apply lm_wB); (first | exact rfl | assumption); omega)
    | ((with_reducible apply lm_sAl); (first | exact rfl | assumption); omega)
    | ((with_reducible apply lm_iW); decide))
      refine lm_cV c4 ?_
      repeat (first
    | ((with_reducible apply lm_sI); exact rfl)
    | ((with_reducible apply lm_sR); exact rfl)
    | ((with_reducible apply lm_sS); exact rfl; exact rfl)
    | ((with_reducible apply lm_sL); exact rfl)
    | ((with_reducible apply lm_sP); exact rfl; exact rfl)
    | ((with_reducible apply lm_sPL); exact rfl; exact rfl)
    | ((with_reducible apply lm_sAA); exact rfl; exact rfl)
    | ((with_reducible apply lm_sA); (first | exact rfl | assumption); omega)
    | ((with_reducible apply lm_sJ); (first | exact rfl | assumption); omega)
    | ((with_reducible apply lm_sB); (first | exact rfl | assumption); omega)
    | ((with_reducible apply lm_wA); (first | exact rfl | assumption); omega)
    | ((with_reducible apply lm_wJ); (first | exact rfl | assumption); omega)
    | ((with_reducible apply lm_wB); (first | exact rfl | assumption); omega)
    | ((with_reducible apply lm_sAl); (first | exact rfl | assumption); omega)
    | ((with_reducible apply lm_iW); decide))
      simp only [Nat.reduceDiv, Nat.reduceMod]
      rw [e4, i2.2.1.1]
      refine lm_cV c5 ?_
      exact KK) m n ⟨Nat.le_refl _, h, fun _ _ _ _ _ => rfl, lm_fG.rf, fun _ _ => rfl, fun i hi => by rw [hX i hi, Nat.sub_self]; rfl⟩
  refine ⟨m2, n2, ?_, j3, j4, j2, j5, fun i hi => by rw [j6 i hi, Nat.add_sub_cancel_left]⟩
  clear j6 j5 hX
  refine lm_cal_of (Y := lm_m190) rfl rfl (lm_e190_0 ?_)
  unfold lm_q190_0
  refine k2 _ (lm_e190_3 ?_)
  unfold lm_q190_3
  rw [lm_oo]
  exact lm_geT (by omega) (by omega) (Nat.le_refl _) rfl
/-- a leaf -/
def lm_I178 (W : lm_WT) (u : Int32) (m0 : lm_MI) (n0 : lm_ML) (j : Nat) (m : lm_MI) (n : lm_ML) : Prop := lm_RX W m n ∧ (∀ r, r ≠ 203 → r ≠ 227 → r ≠ 333 → r ≠ 351 → m r = m0 r) ∧ lm_fG m0 n0 m n ∧ ∀ t, t < j * lm_sn W.2.1 → lm_b8 (m 351 t) = lm_hen W u t
theorem lm_u178 (hs : W.2.1 ≤ 11) (h : lm_RX W m n) (hp : lm_ar p = some (1, w)) (gp : lm_okp p) (gp1 : p ≠ 351) (hbw : b + lm_sn W.2.1 ≤ w) (hw : w ≤ 70000) : ∃ m' n', lm_cal sc (d + 8) 178 [.ref 203, .int u, .ref p, .int (Int32.ofNat b)] (lm_w m n x) = some (.ok none, lm_w m' n' x) ∧ (∀ r, r ≠ 203 → r ≠ 227 → r ≠ 333 → r ≠ 351 → r ≠ p → m' r = m r) ∧ lm_fG m n m' n' ∧ lm_RX W m' n' ∧ (∀ i, i < b ∨ b + lm_sn W.2.1 ≤ i → m' p i = m p i) ∧ ∀ i, i < lm_sn W.2.1 → lm_b8 (m' p (b + i)) = lm_hlf W u i := by
  have hpar := lm_spar _ hs
  have hc0 := lm_cwn hs (j := 0) (by unfold lm_cw; omega)
  obtain ⟨m1, n1, ⟨i1, i2, i3, i4⟩, k1⟩ := lm_lp (sc := sc) (d := d + 7) (x := x) (hs := lm_m178.2.2.2.2.1) (code := lm_reg lm_m178.2.2.2.2.2) (I := lm_I178 W u m n) (fr := fun j => (3, [(0, .ref 203), (1, .int u), (2, .ref p), (3, .int (Int32.ofNat b)), (4, .int (Int32.ofNat j))], [])) (b := lm_cw W.2.1) (fun j hj m3 n3 ⟨i1, i2, i3, i4⟩ => by
    have hcw := lm_cwn hs hj
    obtain ⟨m4, m5, n5, c4, c5, e4, f5, g5, S5, o5, v5⟩ := lm_rps (sc := sc) (d := d) (x := x) (p := 351) (w := 2144) (b := j * lm_sn W.2.1) (ty := Int32.ofNat 5) (u := u) (y := Int32.ofNat j) (z := Int32.ofNat 0) hs i1 lm_s3c.2.2.2.2.2.1 rfl (by unfold lm_okp; decide) (by omega) (by decide)
    obtain ⟨m6, n6, c6, f6, g6, S6, o6, v6⟩ := lm_u190 (sc := sc) (d := d) (x := x) (u := u) (y := Int32.ofNat j) (f := 0) (st := 15) (p := 351) (w := 2144) (b := j * lm_sn W.2.1) hs S5 (by decide) rfl (by unfold lm_okp; decide) (by omega) (by decide) v5
    refine ⟨m6, n6, ⟨S6, fun r r1 r2 r3 r4 => by rw [f6 r r1 r2 r3 r4, f5 r r1 r2 r3 r4, i2 r r1 r2 r3 r4], i3.tr (g5.tr g6), fun t ht => ?_⟩, fun R KK => ?_⟩
    · rw [Nat.succ_mul] at ht
      by_cases c : t < j * lm_sn W.2.1
      · rw [o6 t (by omega), o5 t (by omega)]
        exact i4 t c
      · obtain ⟨i, rfl⟩ : ∃ i, t = j * lm_sn W.2.1 + i := ⟨t - j * lm_sn W.2.1, by omega⟩
        have hi : i < lm_sn W.2.1 := by omega
        rw [v6 i hi]
        unfold lm_hen
        rw [(lm_dmn hi).1, (lm_dmn hi).2]
        rfl
    · clear v5 o5 i4 v6 o6
      refine lm_e178_3 ?_
      unfold lm_q178_3
      rw [lm_K0, lm_K1, lm_K5, show Int32.ofInt 15 = Int32.ofNat 15 from rfl, lm_oo]
      repeat (first
    | ((with_reducible apply lm_sI); exact rfl)
    | ((with_reducible apply lm_sR); exact rfl)
    | ((with_reducible apply lm_sS); exact rfl; exact rfl)
    | ((with_reducible apply lm_sL); exact rfl)
    | ((with_reducible apply lm_sP); exact rfl; exact rfl)
    | ((with_reducible apply lm_sPL); exact rfl; exact rfl)
    | ((with_reducible apply lm_sAA); exact rfl; exact rfl)
    | ((with_reducible apply lm_sA); (first | exact rfl | assumption); omega)
    | ((with_reducible apply lm_sJ); (first | exact rfl | assumption); omega)
    | ((with_reducible apply lm_sB); (first | exact rfl | assumption); omega)
    | ((with_reducible apply lm_wA); (first | exact rfl | assumption); omega)
    | ((with_reducible apply lm_wJ); (first | exact rfl | assumption); omega)
    | ((with_reducible apply lm_wB); (first | exact rfl | assumption); omega)
    | ((with_reducible apply lm_sAl); (first | exact rfl | assumption); omega)
    | ((with_reducible apply lm_iW); decide))
      simp only [Nat.reduceDiv, Nat.reduceMod]
      rw [i1.2.1.2.2.2.2.2.2.1]
      refine lm_geF (by omega) (by omega) (by omega) ?_
      repeat (first
    | ((with_reducible apply lm_sI); exact rfl)
    | ((with_reducible apply lm_sR); exact rfl)
    | ((with_reducible apply lm_sS); exact rfl; exact rfl)
    | ((with_reducible apply lm_sL); exact rfl)
    | ((with_reducible apply lm_sP); exact rfl; exact rfl)
    | ((with_reducible apply lm_sPL); exact rfl; exact rfl)
    | ((with_reducible apply lm_sAA); exact rfl; exact rfl)
    | ((with_reducible apply lm_sA); (first | exact rfl | assumption); omega)
    | ((with_reducible apply lm_sJ); (first | exact rfl | assumption); omega)
    | ((with_reducible apply lm_sB); (first | exact rfl | assumption); omega)
    | ((with_reducible apply lm_wA); (first | exact rfl | assumption); omega)
    | ((with_reducible apply lm_wJ); (first | exact rfl | assumption); omega)
    | ((with_reducible apply lm_wB); (first | exact rfl | assumption); omega)
    | ((with_reducible apply lm_sAl); (first | exact rfl | assumption); omega)
    | ((with_reducible apply lm_iW); decide))
      refine lm_cV c4 ?_
      repeat (first
    | ((with_reducible apply lm_sI); exact rfl)
    | ((with_reducible apply lm_sR); exact rfl)
    | ((with_reducible apply lm_sS); exact rfl; exact rfl)
    | ((with_reducible apply lm_sL); exact rfl)
    | ((with_reducible apply lm_sP); exact rfl; exact rfl)
    | ((with_reducible apply lm_sPL); exact rfl; exact rfl)
    | ((with_reducible apply lm_sAA); exact rfl; exact rfl)
    | ((with_reducible apply lm_sA); (first | exact rfl | assumption); omega)
    | ((with_reducible apply lm_sJ); (first | exact rfl | assumption); omega)
    | ((with_reducible apply lm_sB); (first | exact rfl | assumption); omega)
    | ((with_reducible apply lm_wA); (first | exact rfl | assumption); omega)
    | ((with_reducible apply lm_wJ); (first | exact rfl | assumption); omega)
    | ((with_reducible apply lm_wB); (first | exact rfl | assumption); omega)
    | ((with_reducible apply lm_sAl); (first | exact rfl | assumption); omega)
    | ((with_reducible apply lm_iW); decide))
      simp only [Nat.reduceDiv, Nat.reduceMod]
      rw [e4, i1.2.1.1, lm_om]
      refine lm_cV c5 ?_
      repeat (first
    | ((with_reducible apply lm_sI); exact rfl)
    | ((with_reducible apply lm_sR); exact rfl)
    | ((with_reducible apply lm_sS); exact rfl; exact rfl)
    | ((with_reducible apply lm_sL); exact rfl)
    | ((with_reducible apply lm_sP); exact rfl; exact rfl)
    | ((with_reducible apply lm_sPL); exact rfl; exact rfl)
    | ((with_reducible apply lm_sAA); exact rfl; exact rfl)
    | ((with_reducible apply lm_sA); (first | exact rfl | assumption); omega)
    | ((with_reducible apply lm_sJ); (first | exact rfl | assumption); omega)
    | ((with_reducible apply lm_sB); (first | exact rfl | assumption); omega)
    | ((with_reducible apply lm_wA); (first | exact rfl | assumption); omega)
    | ((with_reducible apply lm_wJ); (first | exact rfl | assumption); omega)
    | ((with_reducible apply lm_wB); (first | exact rfl | assumption); omega)
    | ((with_reducible apply lm_sAl); (first | exact rfl | assumption); omega)
    | ((with_reducible apply lm_iW); decide))
      simp only [Nat.reduceDiv, Nat.reduceMod]
      rw [S5.2.1.1, lm_om]
      refine lm_cV c6 ?_
      exact KK) (lm_cw W.2.1) 0 (Nat.zero_add _) m n ⟨h, fun _ _ _ _ _ => rfl, lm_fG.rf, fun t ht => absurd ht (by rw [Nat.zero_mul]; omega)⟩
  obtain ⟨m2, m3, n3, c2, c3, e2, f3, g3, S3, o3, v3⟩ := lm_rth (sc := sc) (d := d + 1) (e := d + 6) (x := x) (q := 351) (v := 2144) (a := 0) (l := lm_cw W.2.1 * lm_sn W.2.1) (X := lm_hen W u) (p := p) (w := w) (b := b) (ty := Int32.ofNat 1) (u := u) (y := Int32.ofNat 0) (z := Int32.ofNat 0) hs i1 lm_s3c.2.1 (fun _ => by decide) rfl (by unfold lm_okq; decide) (by omega) (by decide) (fun t ht => by rw [Nat.zero_add]; exact i4 t ht) hp gp hbw hw
  refine ⟨m3, n3, ?_, fun r r1 r2 r3 r4 r5 => by rw [f3 r r1 r2 r3 r5, i2 r r1 r2 r3 r4], i3.tr g3, S3, fun i hi => by rw [o3 i hi, i2 p gp.1 gp.2.1 gp.2.2.2.1 gp1], fun i hi => by rw [v3 i hi]; rfl⟩
  clear i4 v3 o3
  refine lm_cal_of (Y := lm_m178) rfl rfl (lm_e178_0 ?_)
  unfold lm_q178_0
  rw [lm_K0]
  refine k1 _ (lm_e178_3 ?_)
  unfold lm_q178_3
  rw [lm_K0, lm_K1]
  repeat (first
    | ((with_reducible apply lm_sI); exact rfl)
    | ((with_reducible apply lm_sR); exact rfl)
    | ((with_reducible apply lm_sS); exact rfl; exact rfl)
    | ((with_reducible apply lm_sL); exact rfl)
    | ((with_reducible apply lm_sP); exact rfl; exact rfl)
    | ((with_reducible apply lm_sPL); exact rfl; exact rfl)
    | ((with_reducible apply lm_sAA); exact rfl; exact rfl)
    | ((with_reducible apply lm_sA); (first | exact rfl | assumption); omega)
    | ((with_reducible apply lm_sJ); (first | exact rfl | assumption); omega)
    | ((with_reducible apply lm_sB); (first | exact rfl | assumption); omega)
    | ((with_reducible apply lm_wA); (first | exact rfl | assumption); omega)
    | ((with_reducible apply lm_wJ); (first | exact rfl | assumption); omega)
    | ((with_reducible apply lm_wB); (first | exact rfl | assumption); omega)
    | ((with_reducible apply lm_sAl); (first | exact rfl | assumption); omega)
    | ((with_reducible apply lm_iW); decide))
  simp only [Nat.reduceDiv, Nat.reduceMod]
  rw [i1.2.1.2.2.2.2.2.2.1]
  refine lm_geT (by omega) (by omega) (Nat.le_refl _) ?_
  repeat (first
    | ((with_reducible apply lm_sI); exact rfl)
    | ((with_reducible apply lm_sR); exact rfl)
    | ((with_reducible apply lm_sS); exact rfl; exact rfl)
    | ((with_reducible apply lm_sL); exact rfl)
    | ((with_reducible apply lm_sP); exact rfl; exact rfl)
    | ((with_reducible apply lm_sPL); exact rfl; exact rfl)
    | ((with_reducible apply lm_sAA); exact rfl; exact rfl)
    | ((with_reducible apply lm_sA); (first | exact rfl | assumption); omega)
    | ((with_reducible apply lm_sJ); (first | exact rfl | assumption); omega)
    | ((with_reducible apply lm_sB); (first | exact rfl | assumption); omega)
    | ((with_reducible apply lm_wA); (first | exact rfl | assumption); omega)
    | ((with_reducible apply lm_wJ); (first | exact rfl | assumption); omega)
    | ((with_reducible apply lm_wB); (first | exact rfl | assumption); omega)
    | ((with_reducible apply lm_sAl); (first | exact rfl | assumption); omega)
    | ((with_reducible apply lm_iW); decide))
  refine lm_cV c2 ?_
  repeat (first
    | ((with_reducible apply lm_sI); exact rfl)
    | ((with_reducible apply lm_sR); exact rfl)
    | ((with_reducible apply lm_sS); exact rfl; exact rfl)
    | ((with_reducible apply lm_sL); exact rfl)
    | ((with_reducible apply lm_sP); exact rfl; exact rfl)
    | ((with_reducible apply lm_sPL); exact rfl; exact rfl)
    | ((with_reducible apply lm_sAA); exact rfl; exact rfl)
    | ((with_reducible apply lm_sA); (first | exact rfl | assumption); omega)
    | ((with_reducible apply lm_sJ); (first | exact rfl | assumption); omega)
    | ((with_reducible apply lm_sB); (first | exact rfl | assumption); omega)
    | ((with_reducible apply lm_wA); (first | exact rfl | assumption); omega)
    | ((with_reducible apply lm_wJ); (first | exact rfl | assumption); omega)
    | ((with_reducible apply lm_wB); (first | exact rfl | assumption); omega)
    | ((with_reducible apply lm_sAl); (first | exact rfl | assumption); omega)
    | ((with_reducible apply lm_iW); decide))
  simp only [Nat.reduceDiv, Nat.reduceMod]
  rw [e2, i1.2.1.2.2.2.2.2.2.1, i1.2.1.1, lm_om]
  exact lm_cV c3 rfl
/-- a node: its pair of nodes below lies in the row of its level -/
theorem lm_u109 (hs : W.2.1 ≤ 11) : ∀ (zz i p w b : Nat) (m : lm_MI) (n : lm_ML), zz ≤ 14 → (i + 1) * 2 ^ zz ≤ 2000000 → lm_RX W m n → lm_ar p = some (1, w) → lm_okp p → p ≠ 351 → (p < 335 ∨ 335 + zz < p) → b + lm_sn W.2.1 ≤ w → w ≤ 70000 → ∃ m' n', lm_cal sc (d + 9 + zz) 109 [.ref 203, .int (Int32.ofNat zz), .int (Int32.ofNat i), .ref p, .int (Int32.ofNat b)] (lm_w m n x) = some (.ok none, lm_w m' n' x) ∧ (∀ r, r ≠ 203 → r ≠ 227 → r ≠ 333 → r ≠ 351 → (r < 335 ∨ 335 + zz < r) → r ≠ p → m' r = m r) ∧ lm_fG m n m' n' ∧ lm_RX W m' n' ∧ (∀ i, i < b ∨ b + lm_sn W.2.1 ≤ i → m' p i = m p i) ∧ ∀ t, t < lm_sn W.2.1 → lm_b8 (m' p (b + t)) = lm_hnd W false (Int32.ofNat 0) zz i t := by
  have hpar := lm_spar _ hs
  intro zz
  induction zz with
  | zero =>
    intro i p w b m n hz hi h hp gp gp1 gp2 hbw hw
    obtain ⟨m1, n1, c1, f1, g1, S1, o1, v1⟩ := lm_u178 (sc := sc) (d := d) (x := x) (u := Int32.ofNat i) hs h hp gp gp1 hbw hw
    refine ⟨m1, n1, ?_, fun r r1 r2 r3 r4 _ r6 => f1 r r1 r2 r3 r4 r6, g1, S1, o1, v1⟩
    clear v1 o1
    refine lm_cal_of (Y := lm_m109) rfl rfl (lm_e109_0 ?_)
    unfold lm_q109_0
    refine lm_iF (show ¬ ¬ Int32.ofNat 0 = 0 by decide) ?_
    repeat (first
    | ((with_reducible apply lm_sI); exact rfl)
    | ((with_reducible apply lm_sR); exact rfl)
    | ((with_reducible apply lm_sS); exact rfl; exact rfl)
    | ((with_reducible apply lm_sL); exact rfl)
    | ((with_reducible apply lm_sP); exact rfl; exact rfl)
    | ((with_reducible apply lm_sPL); exact rfl; exact rfl)
    | ((with_reducible apply lm_sAA); exact rfl; exact rfl)
    | ((with_reducible apply lm_sA); (first | exact rfl | assumption); omega)
    | ((with_reducible apply lm_sJ); (first | exact rfl | assumption); omega)
    | ((with_reducible apply lm_sB); (first | exact rfl | assumption); omega)
    | ((with_reducible apply lm_wA); (first | exact rfl | assumption); omega)
    | ((with_reducible apply lm_wJ); (first | exact rfl | assumption); omega)
    | ((with_reducible apply lm_wB); (first | exact rfl | assumption); omega)
    | ((with_reducible apply lm_sAl); (first | exact rfl | assumption); omega)
    | ((with_reducible apply lm_iW); decide))
    exact lm_cV c1 rfl
  | succ zz ih =>
    intro i p w b m n hz hi h hp gp gp1 gp2 hbw hw
    have ei : (2 * i + 1 + 1) * 2 ^ zz = (i + 1) * 2 ^ (zz + 1) := by rw [Nat.pow_succ, Nat.mul_comm (2 ^ zz) 2, ← Nat.mul_assoc]; congr 1; omega
    have ei' : (2 * i + 1) * 2 ^ zz ≤ (2 * i + 1 + 1) * 2 ^ zz := Nat.mul_le_mul_right _ (by omega)
    have hi1 : i + 1 ≤ (i + 1) * 2 ^ (zz + 1) := Nat.le_mul_of_pos_right _ (Nat.two_pow_pos _)
    have ar := lm_arW' (zz + 1) (by omega)
    obtain ⟨m1, n1, c1, f1, g1, S1, o1, v1⟩ := ih (2 * i) (335 + (zz + 1)) 64 0 m n (by omega) (by omega) h ar (by unfold lm_okp; omega) (by omega) (by omega) (by omega) (by decide)
    obtain ⟨m2, n2, c2, f2, g2, S2, o2, v2⟩ := ih (2 * i + 1) (335 + (zz + 1)) 64 (lm_sn W.2.1) m1 n1 (by omega) (by omega) S1 ar (by unfold lm_okp; omega) (by omega) (by omega) (by omega) (by decide)
    obtain ⟨m3, m4, n4, c3, c4, e3, f4, g4, S4, o4, v4⟩ := lm_rth (sc := sc) (d := d + 3 + zz) (e := d + 8 + zz) (x := x) (q := 335 + (zz + 1)) (v := 64) (a := 0) (l := 2 * lm_sn W.2.1) (X := lm_cat (lm_sn W.2.1) (lm_hnd W false (Int32.ofNat 0) zz (2 * i)) (lm_hnd W false (Int32.ofNat 0) zz (2 * i + 1))) (p := p) (w := w) (b := b) (ty := Int32.ofNat 2) (u := Int32.ofNat 0) (y := Int32.ofNat (zz + 1)) (z := Int32.ofNat i) hs S2 lm_s3c.2.2.1 (fun _ => by decide) ar (by unfold lm_okq; omega) (by omega) (by decide) (fun t ht => by
      unfold lm_cat
      by_cases c : t < lm_sn W.2.1
      · rw [if_pos c, o2 _ (by omega)]
        exact v1 t c
      · rw [if_neg c, ← v2 (t - lm_sn W.2.1) (by omega)]
        congr 2
        omega) hp gp hbw hw
    rw [show d + 3 + zz + 6 = d + 9 + zz by omega] at c4
    rw [show d + 8 + zz + 1 = d + 9 + zz by omega] at c3
    refine ⟨m4, n4, ?_, fun r r1 r2 r3 r4 r5 r6 => by rw [f4 r r1 r2 r3 r6, f2 r r1 r2 r3 r4 (by omega) (by omega), f1 r r1 r2 r3 r4 (by omega) (by omega)], g1.tr (g2.tr g4), S4, fun j hj => by rw [o4 j hj, f2 p gp.1 gp.2.1 gp.2.2.2.1 gp1 (by omega) (by omega), f1 p gp.1 gp.2.1 gp.2.2.2.1 gp1 (by omega) (by omega)], v4⟩
    clear v1 v2 v4 o1 o2 o4
    refine lm_cal_of (Y := lm_m109) rfl rfl (lm_e109_0 ?_)
    unfold lm_q109_0
    refine lm_iT (show ¬ Int32.ofNat (zz + 1) = 0 from fun g => absurd ((lm_eq32 (b := 0) (by omega) (by omega)).mp g) (by omega)) ?_
    rw [lm_K0, lm_K1, lm_K2, lm_osu (by omega), lm_om, lm_oo, Nat.add_sub_cancel]
    repeat (first
    | ((with_reducible apply lm_sI); exact rfl)
    | ((with_reducible apply lm_sR); exact rfl)
    | ((with_reducible apply lm_sS); exact rfl; exact rfl)
    | ((with_reducible apply lm_sL); exact rfl)
    | ((with_reducible apply lm_sP); exact rfl; exact rfl)
    | ((with_reducible apply lm_sPL); exact rfl; exact rfl)
    | ((with_reducible apply lm_sAA); exact rfl; exact rfl)
    | ((with_reducible apply lm_sA); (first | exact rfl | assumption); omega)
    | ((with_reducible apply lm_sJ); (first | exact rfl | assumption); omega)
    | ((with_reducible apply lm_sB); (first | exact rfl | assumption); omega)
    | ((with_reducible apply lm_wA); (first | exact rfl | assumption); omega)
    | ((with_reducible apply lm_wJ); (first | exact rfl | assumption); omega)
    | ((with_reducible apply lm_wB); (first | exact rfl | assumption); omega)
    | ((with_reducible apply lm_sAl); (first | exact rfl | assumption); omega)
    | ((with_reducible apply lm_iW); decide))
    refine lm_sAA rfl (ln_roW _ (by omega)) ?_
    repeat (first
    | ((with_reducible apply lm_sI); exact rfl)
    | ((with_reducible apply lm_sR); exact rfl)
    | ((with_reducible apply lm_sS); exact rfl; exact rfl)
    | ((with_reducible apply lm_sL); exact rfl)
    | ((with_reducible apply lm_sP); exact rfl; exact rfl)
    | ((with_reducible apply lm_sPL); exact rfl; exact rfl)
    | ((with_reducible apply lm_sAA); exact rfl; exact rfl)
    | ((with_reducible apply lm_sA); (first | exact rfl | assumption); omega)
    | ((with_reducible apply lm_sJ); (first | exact rfl | assumption); omega)
    | ((with_reducible apply lm_sB); (first | exact rfl | assumption); omega)
    | ((with_reducible apply lm_wA); (first | exact rfl | assumption); omega)
    | ((with_reducible apply lm_wJ); (first | exact rfl | assumption); omega)
    | ((with_reducible apply lm_wB); (first | exact rfl | assumption); omega)
    | ((with_reducible apply lm_sAl); (first | exact rfl | assumption); omega)
    | ((with_reducible apply lm_iW); decide))
    refine lm_cV c1 ?_
    repeat (first
    | ((with_reducible apply lm_sI); exact rfl)
    | ((with_reducible apply lm_sR); exact rfl)
    | ((with_reducible apply lm_sS); exact rfl; exact rfl)
    | ((with_reducible apply lm_sL); exact rfl)
    | ((with_reducible apply lm_sP); exact rfl; exact rfl)
    | ((with_reducible apply lm_sPL); exact rfl; exact rfl)
    | ((with_reducible apply lm_sAA); exact rfl; exact rfl)
    | ((with_reducible apply lm_sA); (first | exact rfl | assumption); omega)
    | ((with_reducible apply lm_sJ); (first | exact rfl | assumption); omega)
    | ((with_reducible apply lm_sB); (first | exact rfl | assumption); omega)
    | ((with_reducible apply lm_wA); (first | exact rfl | assumption); omega)
    | ((with_reducible apply lm_wJ); (first | exact rfl | assumption); omega)
    | ((with_reducible apply lm_wB); (first | exact rfl | assumption); omega)
    | ((with_reducible apply lm_sAl); (first | exact rfl | assumption); omega)
    | ((with_reducible apply lm_iW); decide))
    simp only [Nat.reduceDiv, Nat.reduceMod]
    rw [S1.2.1.1]
    refine lm_cV c2 ?_
    repeat (first
    | ((with_reducible apply lm_sI); exact rfl)
    | ((with_reducible apply lm_sR); exact rfl)
    | ((with_reducible apply lm_sS); exact rfl; exact rfl)
    | ((with_reducible apply lm_sL); exact rfl)
    | ((with_reducible apply lm_sP); exact rfl; exact rfl)
    | ((with_reducible apply lm_sPL); exact rfl; exact rfl)
    | ((with_reducible apply lm_sAA); exact rfl; exact rfl)
    | ((with_reducible apply lm_sA); (first | exact rfl | assumption); omega)
    | ((with_reducible apply lm_sJ); (first | exact rfl | assumption); omega)
    | ((with_reducible apply lm_sB); (first | exact rfl | assumption); omega)
    | ((with_reducible apply lm_wA); (first | exact rfl | assumption); omega)
    | ((with_reducible apply lm_wJ); (first | exact rfl | assumption); omega)
    | ((with_reducible apply lm_wB); (first | exact rfl | assumption); omega)
    | ((with_reducible apply lm_sAl); (first | exact rfl | assumption); omega)
    | ((with_reducible apply lm_iW); decide))
    refine lm_cV c3 ?_
    repeat (first
    | ((with_reducible apply lm_sI); exact rfl)
    | ((with_reducible apply lm_sR); exact rfl)
    | ((with_reducible apply lm_sS); exact rfl; exact rfl)
    | ((with_reducible apply lm_sL); exact rfl)
    | ((with_reducible apply lm_sP); exact rfl; exact rfl)
    | ((with_reducible apply lm_sPL); exact rfl; exact rfl)
    | ((with_reducible apply lm_sAA); exact rfl; exact rfl)
    | ((with_reducible apply lm_sA); (first | exact rfl | assumption); omega)
    | ((with_reducible apply lm_sJ); (first | exact rfl | assumption); omega)
    | ((with_reducible apply lm_sB); (first | exact rfl | assumption); omega)
    | ((with_reducible apply lm_wA); (first | exact rfl | assumption); omega)
    | ((with_reducible apply lm_wJ); (first | exact rfl | assumption); omega)
    | ((with_reducible apply lm_wB); (first | exact rfl | assumption); omega)
    | ((with_reducible apply lm_sAl); (first | exact rfl | assumption); omega)
    | ((with_reducible apply lm_iW); decide))
    simp only [Nat.reduceDiv, Nat.reduceMod]
    rw [e3, S2.2.1.1, lm_om]
    exact lm_cV c4 rfl
/-- a node of the forest -/
theorem lm_u187 (hs : W.2.1 ≤ 11) : ∀ (zz i p w b : Nat) (m : lm_MI) (n : lm_ML), zz ≤ 14 → (i + 1) * 2 ^ zz ≤ 2000000 → lm_RX W m n → lm_ar p = some (1, w) → lm_okp p → p ≠ 353 → (p < 335 ∨ 335 + zz < p) → b + lm_sn W.2.1 ≤ w → w ≤ 70000 → ∃ m' n', lm_cal sc (d + 8 + zz) 187 [.ref 203, .int u, .int (Int32.ofNat zz), .int (Int32.ofNat i), .ref p, .int (Int32.ofNat b)] (lm_w m n x) = some (.ok none, lm_w m' n' x) ∧ (∀ r, r ≠ 203 → r ≠ 227 → r ≠ 333 → r ≠ 353 → (r < 335 ∨ 335 + zz < r) → r ≠ p → m' r = m r) ∧ lm_fG m n m' n' ∧ lm_RX W m' n' ∧ (∀ i, i < b ∨ b + lm_sn W.2.1 ≤ i → m' p i = m p i) ∧ ∀ t, t < lm_sn W.2.1 → lm_b8 (m' p (b + t)) = lm_hnd W true u zz i t := by
  have hpar := lm_spar _ hs
  intro zz
  induction zz with
  | zero =>
    intro i p w b m n hz hi h hp gp gp1 gp2 hbw hw
    obtain ⟨m1, m2, n2, c1, c2, e1, f2, g2, S2, o2, v2⟩ := lm_rps (sc := sc) (d := d) (x := x) (p := 353) (w := 32) (b := 0) (ty := Int32.ofNat 6) (u := u) (y := Int32.ofNat 0) (z := Int32.ofNat i) hs h lm_s3c.2.2.2.2.2.2 rfl (by unfold lm_okp; decide) (by omega) (by decide)
    obtain ⟨m3, m4, n4, c3, c4, e3, f4, g4, S4, o4, v4⟩ := lm_rth (sc := sc) (d := d + 1) (e := d + 6) (x := x) (q := 353) (v := 32) (a := 0) (l := lm_sn W.2.1) (X := lm_hfs W u (Int32.ofNat i)) (p := p) (w := w) (b := b) (ty := Int32.ofNat 3) (u := u) (y := Int32.ofNat 0) (z := Int32.ofNat i) hs S2 lm_s3c.2.2.2.1 (fun g => absurd g (Nat.lt_irrefl _)) rfl (by unfold lm_okq; decide) (by omega) (by decide) (fun t ht => v2 t ht) hp gp hbw hw
    refine ⟨m4, n4, ?_, fun r r1 r2 r3 r4 _ r6 => by rw [f4 r r1 r2 r3 r6, f2 r r1 r2 r3 r4], g2.tr g4, S4, fun j hj => by rw [o4 j hj, f2 p gp.1 gp.2.1 gp.2.2.2.1 gp1], fun t ht => by rw [v4 t ht]; rfl⟩
    clear v2 v4 o2 o4
    refine lm_cal_of (Y := lm_m187) rfl rfl (lm_e187_0 ?_)
    unfold lm_q187_0
    refine lm_iF (show ¬ ¬ Int32.ofNat 0 = 0 by decide) ?_
    rw [lm_K0, lm_K3, lm_K6]
    repeat (first
    | ((with_reducible apply lm_sI); exact rfl)
    | ((with_reducible apply lm_sR); exact rfl)
    | ((with_reducible apply lm_sS); exact rfl; exact rfl)
    | ((with_reducible apply lm_sL); exact rfl)
    | ((with_reducible apply lm_sP); exact rfl; exact rfl)
    | ((with_reducible apply lm_sPL); exact rfl; exact rfl)
    | ((with_reducible apply lm_sAA); exact rfl; exact rfl)
    | ((with_reducible apply lm_sA); (first | exact rfl | assumption); omega)
    | ((with_reducible apply lm_sJ); (first | exact rfl | assumption); omega)
    | ((with_reducible apply lm_sB); (first | exact rfl | assumption); omega)
    | ((with_reducible apply lm_wA); (first | exact rfl | assumption); omega)
    | ((with_reducible apply lm_wJ); (first | exact rfl | assumption); omega)
    | ((with_reducible apply lm_wB); (first | exact rfl | assumption); omega)
    | ((with_reducible apply lm_sAl); (first | exact rfl | assumption); omega)
    | ((with_reducible apply lm_iW); decide))
    refine lm_cV c1 ?_
    repeat (first
    | ((with_reducible apply lm_sI); exact rfl)
    | ((with_reducible apply lm_sR); exact rfl)
    | ((with_reducible apply lm_sS); exact rfl; exact rfl)
    | ((with_reducible apply lm_sL); exact rfl)
    | ((with_reducible apply lm_sP); exact rfl; exact rfl)
    | ((with_reducible apply lm_sPL); exact rfl; exact rfl)
    | ((with_reducible apply lm_sAA); exact rfl; exact rfl)
    | ((with_reducible apply lm_sA); (first | exact rfl | assumption); omega)
    | ((with_reducible apply lm_sJ); (first | exact rfl | assumption); omega)
    | ((with_reducible apply lm_sB); (first | exact rfl | assumption); omega)
    | ((with_reducible apply lm_wA); (first | exact rfl | assumption); omega)
    | ((with_reducible apply lm_wJ); (first | exact rfl | assumption); omega)
    | ((with_reducible apply lm_wB); (first | exact rfl | assumption); omega)
    | ((with_reducible apply lm_sAl); (first | exact rfl | assumption); omega)
    | ((with_reducible apply lm_iW); decide))
    refine lm_cV c2 ?_
    repeat (first
    | ((with_reducible apply lm_sI); exact rfl)
    | ((with_reducible apply lm_sR); exact rfl)
    | ((with_reducible apply lm_sS); exact rfl; exact rfl)
    | ((with_reducible apply lm_sL); exact rfl)
    | ((with_reducible apply lm_sP); exact rfl; exact rfl)
    | ((with_reducible apply lm_sPL); exact rfl; exact rfl)
    | ((with_reducible apply lm_sAA); exact rfl; exact rfl)
    | ((with_reducible apply lm_sA); (first | exact rfl | assumption); omega)
    | ((with_reducible apply lm_sJ); (first | exact rfl | assumption); omega)
    | ((with_reducible apply lm_sB); (first | exact rfl | assumption); omega)
    | ((with_reducible apply lm_wA); (first | exact rfl | assumption); omega)
    | ((with_reducible apply lm_wJ); (first | exact rfl | assumption); omega)
    | ((with_reducible apply lm_wB); (first | exact rfl | assumption); omega)
    | ((with_reducible apply lm_sAl); (first | exact rfl | assumption); omega)
    | ((with_reducible apply lm_iW); decide))
    refine lm_cV c3 ?_
    repeat (first
    | ((with_reducible apply lm_sI); exact rfl)
    | ((with_reducible apply lm_sR); exact rfl)
    | ((with_reducible apply lm_sS); exact rfl; exact rfl)
    | ((with_reducible apply lm_sL); exact rfl)
    | ((with_reducible apply lm_sP); exact rfl; exact rfl)
    | ((with_reducible apply lm_sPL); exact rfl; exact rfl)
    | ((with_reducible apply lm_sAA); exact rfl; exact rfl)
    | ((with_reducible apply lm_sA); (first | exact rfl | assumption); omega)
    | ((with_reducible apply lm_sJ); (first | exact rfl | assumption); omega)
    | ((with_reducible apply lm_sB); (first | exact rfl | assumption); omega)
    | ((with_reducible apply lm_wA); (first | exact rfl | assumption); omega)
    | ((with_reducible apply lm_wJ); (first | exact rfl | assumption); omega)
    | ((with_reducible apply lm_wB); (first | exact rfl | assumption); omega)
    | ((with_reducible apply lm_sAl); (first | exact rfl | assumption); omega)
    | ((with_reducible apply lm_iW); decide))
    simp only [Nat.reduceDiv, Nat.reduceMod]
    rw [e3, S2.2.1.1]
    exact lm_cV c4 rfl
  | succ zz ih =>
    intro i p w b m n hz hi h hp gp gp1 gp2 hbw hw
    have ei : (2 * i + 1 + 1) * 2 ^ zz = (i + 1) * 2 ^ (zz + 1) := by rw [Nat.pow_succ, Nat.mul_comm (2 ^ zz) 2, ← Nat.mul_assoc]; congr 1; omega
    have ei' : (2 * i + 1) * 2 ^ zz ≤ (2 * i + 1 + 1) * 2 ^ zz := Nat.mul_le_mul_right _ (by omega)
    have hi1 : i + 1 ≤ (i + 1) * 2 ^ (zz + 1) := Nat.le_mul_of_pos_right _ (Nat.two_pow_pos _)
    have ar := lm_arW' (zz + 1) (by omega)
    obtain ⟨m1, n1, c1, f1, g1, S1, o1, v1⟩ := ih (2 * i) (335 + (zz + 1)) 64 0 m n (by omega) (by omega) h ar (by unfold lm_okp; omega) (by omega) (by omega) (by omega) (by decide)
    obtain ⟨m2, n2, c2, f2, g2, S2, o2, v2⟩ := ih (2 * i + 1) (335 + (zz + 1)) 64 (lm_sn W.2.1) m1 n1 (by omega) (by omega) S1 ar (by unfold lm_okp; omega) (by omega) (by omega) (by omega) (by decide)
    obtain ⟨m3, m4, n4, c3, c4, e3, f4, g4, S4, o4, v4⟩ := lm_rth (sc := sc) (d := d + 2 + zz) (e := d + 7 + zz) (x := x) (q := 335 + (zz + 1)) (v := 64) (a := 0) (l := 2 * lm_sn W.2.1) (X := lm_cat (lm_sn W.2.1) (lm_hnd W true u zz (2 * i)) (lm_hnd W true u zz (2 * i + 1))) (p := p) (w := w) (b := b) (ty := Int32.ofNat 3) (u := u) (y := Int32.ofNat (zz + 1)) (z := Int32.ofNat i) hs S2 lm_s3c.2.2.2.1 (fun _ => by decide) ar (by unfold lm_okq; omega) (by omega) (by decide) (fun t ht => by
      unfold lm_cat
      by_cases c : t < lm_sn W.2.1
      · rw [if_pos c, o2 _ (by omega)]
        exact v1 t c
      · rw [if_neg c, ← v2 (t - lm_sn W.2.1) (by omega)]
        congr 2
        omega) hp gp hbw hw
    rw [show d + 2 + zz + 6 = d + 8 + zz by omega] at c4
    rw [show d + 7 + zz + 1 = d + 8 + zz by omega] at c3
    refine ⟨m4, n4, ?_, fun r r1 r2 r3 r4 r5 r6 => by rw [f4 r r1 r2 r3 r6, f2 r r1 r2 r3 r4 (by omega) (by omega), f1 r r1 r2 r3 r4 (by omega) (by omega)], g1.tr (g2.tr g4), S4, fun j hj => by rw [o4 j hj, f2 p gp.1 gp.2.1 gp.2.2.2.1 gp1 (by omega) (by omega), f1 p gp.1 gp.2.1 gp.2.2.2.1 gp1 (by omega) (by omega)], v4⟩
    clear v1 v2 v4 o1 o2 o4
    refine lm_cal_of (Y := lm_m187) rfl rfl (lm_e187_0 ?_)
    unfold lm_q187_0
    refine lm_iT (show ¬ Int32.ofNat (zz + 1) = 0 from fun g => absurd ((lm_eq32 (b := 0) (by omega) (by omega)).mp g) (by omega)) ?_
    rw [lm_K0, lm_K1, lm_K2, lm_K3, lm_osu (by omega), lm_om, lm_oo, Nat.add_sub_cancel]
    repeat (first
    | ((with_reducible apply lm_sI); exact rfl)
    | ((with_reducible apply lm_sR); exact rfl)
    | ((with_reducible apply lm_sS); exact rfl; exact rfl)
    | ((with_reducible apply lm_sL); exact rfl)
    | ((with_reducible apply lm_sP); exact rfl; exact rfl)
    | ((with_reducible apply lm_sPL); exact rfl; exact rfl)
    | ((with_reducible apply lm_sAA); exact rfl; exact rfl)
    | ((with_reducible apply lm_sA); (first | exact rfl | assumption); omega)
    | ((with_reducible apply lm_sJ); (first | exact rfl | assumption); omega)
    | ((with_reducible apply lm_sB); (first | exact rfl | assumption); omega)
    | ((with_reducible apply lm_wA); (first | exact rfl | assumption); omega)
    | ((with_reducible apply lm_wJ); (first | exact rfl | assumption); omega)
    | ((with_reducible apply lm_wB); (first | exact rfl | assumption); omega)
    | ((with_reducible apply lm_sAl); (first | exact rfl | assumption); omega)
    | ((with_reducible apply lm_iW); decide))
    refine lm_sAA rfl (ln_roW _ (by omega)) ?_
    repeat (first
    | ((with_reducible apply lm_sI); exact rfl)
    | ((with_reducible apply lm_sR); exact rfl)
    | ((with_reducible apply lm_sS); exact rfl; exact rfl)
    | ((with_reducible apply lm_sL); exact rfl)
    | ((with_reducible apply lm_sP); exact rfl; exact rfl)
    | ((with_reducible apply lm_sPL); exact rfl; exact rfl)
    | ((with_reducible apply lm_sAA); exact rfl; exact rfl)
    | ((with_reducible apply lm_sA); (first | exact rfl | assumption); omega)
    | ((with_reducible apply lm_sJ); (first | exact rfl | assumption); omega)
    | ((with_reducible apply lm_sB); (first | exact rfl | assumption); omega)
    | ((with_reducible apply lm_wA); (first | exact rfl | assumption); omega)
    | ((with_reducible apply lm_wJ); (first | exact rfl | assumption); omega)
    | ((with_reducible apply lm_wB); (first | exact rfl | assumption); omega)
    | ((with_reducible apply lm_sAl); (first | exact rfl | assumption); omega)
    | ((with_reducible apply lm_iW); decide))
    refine lm_cV c1 ?_
    repeat (first
    | ((with_reducible apply lm_sI); exact rfl)
    | ((with_reducible apply lm_sR); exact rfl)
    | ((with_reducible apply lm_sS); exact rfl; exact rfl)
    | ((with_reducible apply lm_sL); exact rfl)
    | ((with_reducible apply lm_sP); exact rfl; exact rfl)
    | ((with_reducible apply lm_sPL); exact rfl; exact rfl)
    | ((with_reducible apply lm_sAA); exact rfl; exact rfl)
    | ((with_reducible apply lm_sA); (first | exact rfl | assumption); omega)
    | ((with_reducible apply lm_sJ); (first | exact rfl | assumption); omega)
    | ((with_reducible apply lm_sB); (first | exact rfl | assumption); omega)
    | ((with_reducible apply lm_wA); (first | exact rfl | assumption); omega)
    | ((with_reducible apply lm_wJ); (first | exact rfl | assumption); omega)
    | ((with_reducible apply lm_wB); (first | exact rfl | assumption); omega)
    | ((with_reducible apply lm_sAl); (first | exact rfl | assumption); omega)
    | ((with_reducible apply lm_iW); decide))
    simp only [Nat.reduceDiv, Nat.reduceMod]
    rw [S1.2.1.1]
    refine lm_cV c2 ?_
    repeat (first
    | ((with_reducible apply lm_sI); exact rfl)
    | ((with_reducible apply lm_sR); exact rfl)
    | ((with_reducible apply lm_sS); exact rfl; exact rfl)
    | ((with_reducible apply lm_sL); exact rfl)
    | ((with_reducible apply lm_sP); exact rfl; exact rfl)
    | ((with_reducible apply lm_sPL); exact rfl; exact rfl)
    | ((with_reducible apply lm_sAA); exact rfl; exact rfl)
    | ((with_reducible apply lm_sA); (first | exact rfl | assumption); omega)
    | ((with_reducible apply lm_sJ); (first | exact rfl | assumption); omega)
    | ((with_reducible apply lm_sB); (first | exact rfl | assumption); omega)
    | ((with_reducible apply lm_wA); (first | exact rfl | assumption); omega)
    | ((with_reducible apply lm_wJ); (first | exact rfl | assumption); omega)
    | ((with_reducible apply lm_wB); (first | exact rfl | assumption); omega)
    | ((with_reducible apply lm_sAl); (first | exact rfl | assumption); omega)
    | ((with_reducible apply lm_iW); decide))
    refine lm_cV c3 ?_
    repeat (first
    | ((with_reducible apply lm_sI); exact rfl)
    | ((with_reducible apply lm_sR); exact rfl)
    | ((with_reducible apply lm_sS); exact rfl; exact rfl)
    | ((with_reducible apply lm_sL); exact rfl)
    | ((with_reducible apply lm_sP); exact rfl; exact rfl)
    | ((with_reducible apply lm_sPL); exact rfl; exact rfl)
    | ((with_reducible apply lm_sAA); exact rfl; exact rfl)
    | ((with_reducible apply lm_sA); (first | exact rfl | assumption); omega)
    | ((with_reducible apply lm_sJ); (first | exact rfl | assumption); omega)
    | ((with_reducible apply lm_sB); (first | exact rfl | assumption); omega)
    | ((with_reducible apply lm_wA); (first | exact rfl | assumption); omega)
    | ((with_reducible apply lm_wJ); (first | exact rfl | assumption); omega)
    | ((with_reducible apply lm_wB); (first | exact rfl | assumption); omega)
    | ((with_reducible apply lm_sAl); (first | exact rfl | assumption); omega)
    | ((with_reducible apply lm_iW); decide))
    simp only [Nat.reduceDiv, Nat.reduceMod]
    rw [e3, S2.2.1.1, lm_om]
    exact lm_cV c4 rfl
end LMTF
