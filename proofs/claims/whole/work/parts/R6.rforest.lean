/-! ===== SLH of the reference: numbers, the forest ===== -/
section LMUC
variable {sc : lm_H} {d s : Nat} {W : lm_WT} {m m' : lm_MI} {n n' : lm_ML} {x : lm_H × Nat × Nat} {D A : Nat → Int32} {u : Int32} {p w b j : Nat}
theorem lm_u185 (hs : s ≤ 11) (h7 : m 203 71 = Int32.ofNat (lm_sa s)) (hj : j < ln_sT s) (hD : ∀ t, t < lm_fb s → lm_b8 (m 356 t) = D t) : lm_cal sc (d + 1) 185 [.ref 203, .int (Int32.ofNat j)] (lm_w m n x) = some (.ok (some (.int (Int32.ofNat (lm_bts D (j * lm_sa s) (lm_sa s))))), lm_w m n x) := by
  have hpar := lm_spar s hs
  have hp2 := lm_spar2 s hs
  have hja : j * lm_sa s + lm_sa s ≤ ln_sT s * lm_sa s := by rw [← Nat.succ_mul]; exact Nat.mul_le_mul_right _ hj
  have lp : ∀ k c, c + k = lm_sa s → lm_rn sc d lm_m185.2.2.2.2.1 (lm_reg lm_m185.2.2.2.2.2) (9, [(0, .ref 203), (1, .int (Int32.ofNat j)), (2, .int (Int32.ofNat (lm_bts D (j * lm_sa s) c))), (3, .int (Int32.ofNat (j * lm_sa s + c)))], []) (lm_w m n x) = some (.ok (some (.int (Int32.ofNat (lm_bts D (j * lm_sa s) (lm_sa s))))), lm_w m n x) := by
    intro k
    induction k with
    | zero =>
      intro c hc
      have hc : c = lm_sa s := hc
      subst hc
      refine lm_e185_9 ?_
      unfold lm_q185_9
      repeat (first
    | ((with_reducible apply lm_sI); exact rfl)
    | ((with_reducible apply lm_sR); exact rfl)
    | ((with_reducible apply lm_sS); exact rfl; exact rfl)
    | ((with_reducible apply lm_sL); exact rfl)
    | ((with_reducible apply lm_sP); exact rfl; exact rfl)
    | ((with_reducible apply lm_sPL); exact rfl; exact rfl)
    | ((with_reducible apply lm_sAA); exact rfl; exact rfl)
    | ((with_reducible apply lm_sA); (first | exact rfl | assumption); omega)
    | ((with_reducible apply lm_sJ); (first | exact rfl | assumption); omega)
    | ((with_reducible apply lm_sB); (first | exact rfl | assumption); omega)
    | ((with_reducible apply lm_wA); (first | exact rfl | assumption); omega)
    | ((with_reducible apply lm_wJ); (first | exact rfl | assumption); omega)
    | ((with_reducible apply lm_wB); (first | exact rfl | assumption); omega)
    | ((with_reducible apply lm_sAl); (first | exact rfl | assumption); omega)
    | ((with_reducible apply lm_iW); decide))
      simp only [Nat.reduceDiv, Nat.reduceMod]
      rw [h7, lm_om, lm_oo]
      exact lm_geT (by omega) (by omega) (Nat.le_refl _) rfl
    | succ k ih =>
      intro c hc
      have hcl := lm_bts_lt (D := D) (p := j * lm_sa s) c
      have hcp : 2 ^ c ≤ 16384 := Nat.pow_le_pow_right (n := 2) (by decide) (show c ≤ 14 by omega)
      have ht := lm_tbt_lt (D := D) (k := j * lm_sa s + c)
      have eb : (lm_b8 (m 356 ((j * lm_sa s + c) / 8)) >>> (Int32.ofNat (7 - (j * lm_sa s + c) % 8) &&& 31)) &&& Int32.ofNat 1 = Int32.ofNat (lm_tbt D (j * lm_sa s + c)) := by
        rw [lm_bit8 _ (by omega)]
        unfold lm_tbt
        rw [← hD _ (by omega), lm_yb_b8]
      refine lm_e185_9 ?_
      unfold lm_q185_9
      rw [lm_K1, show Int32.ofInt 7 = Int32.ofNat 7 from rfl, show Int32.ofInt 8 = Int32.ofNat 8 from rfl, lm_oo, lm_orm (by omega) (by decide), lm_od (by omega) (by decide), lm_osu (by omega)]
      repeat (first
    | ((with_reducible apply lm_sI); exact rfl)
    | ((with_reducible apply lm_sR); exact rfl)
    | ((with_reducible apply lm_sS); exact rfl; exact rfl)
    | ((with_reducible apply lm_sL); exact rfl)
    | ((with_reducible apply lm_sP); exact rfl; exact rfl)
    | ((with_reducible apply lm_sPL); exact rfl; exact rfl)
    | ((with_reducible apply lm_sAA); exact rfl; exact rfl)
    | ((with_reducible apply lm_sA); (first | exact rfl | assumption); omega)
    | ((with_reducible apply lm_sJ); (first | exact rfl | assumption); omega)
    | ((with_reducible apply lm_sB); (first | exact rfl | assumption); omega)
    | ((with_reducible apply lm_wA); (first | exact rfl | assumption); omega)
    | ((with_reducible apply lm_wJ); (first | exact rfl | assumption); omega)
    | ((with_reducible apply lm_wB); (first | exact rfl | assumption); omega)
    | ((with_reducible apply lm_sAl); (first | exact rfl | assumption); omega)
    | ((with_reducible apply lm_iW); decide))
      simp only [Nat.reduceDiv, Nat.reduceMod]
      rw [h7, lm_om, lm_oo]
      refine lm_geF (by omega) (by omega) (by omega) ?_
      repeat (first
    | ((with_reducible apply lm_sI); exact rfl)
    | ((with_reducible apply lm_sR); exact rfl)
    | ((with_reducible apply lm_sS); exact rfl; exact rfl)
    | ((with_reducible apply lm_sL); exact rfl)
    | ((with_reducible apply lm_sP); exact rfl; exact rfl)
    | ((with_reducible apply lm_sPL); exact rfl; exact rfl)
    | ((with_reducible apply lm_sAA); exact rfl; exact rfl)
    | ((with_reducible apply lm_sA); (first | exact rfl | assumption); omega)
    | ((with_reducible apply lm_sJ); (first | exact rfl | assumption); omega)
    | ((with_reducible apply lm_sB); (first | exact rfl | assumption); omega)
    | ((with_reducible apply lm_wA); (first | exact rfl | assumption); omega)
    | ((with_reducible apply lm_wJ); (first | exact rfl | assumption); omega)
    | ((with_reducible apply lm_wB); (first | exact rfl | assumption); omega)
    | ((with_reducible apply lm_sAl); (first | exact rfl | assumption); omega)
    | ((with_reducible apply lm_iW); decide))
      rw [eb, Int32.or_comm, lm_orsh (b := 1) (by omega) (by decide) (by omega), show lm_tbt D (j * lm_sa s + c) + lm_bts D (j * lm_sa s) c * 2 ^ 1 = lm_bts D (j * lm_sa s) (c + 1) from Nat.add_comm ..]
      exact ih (c + 1) (by omega)
  have l0 := lp (lm_sa s) 0 (Nat.zero_add _)
  rw [Nat.add_zero] at l0
  refine lm_cal_of (Y := lm_m185) rfl rfl (lm_e185_0 ?_)
  unfold lm_q185_0
  rw [lm_K0]
  repeat (first
    | ((with_reducible apply lm_sI); exact rfl)
    | ((with_reducible apply lm_sR); exact rfl)
    | ((with_reducible apply lm_sS); exact rfl; exact rfl)
    | ((with_reducible apply lm_sL); exact rfl)
    | ((with_reducible apply lm_sP); exact rfl; exact rfl)
    | ((with_reducible apply lm_sPL); exact rfl; exact rfl)
    | ((with_reducible apply lm_sAA); exact rfl; exact rfl)
    | ((with_reducible apply lm_sA); (first | exact rfl | assumption); omega)
    | ((with_reducible apply lm_sJ); (first | exact rfl | assumption); omega)
    | ((with_reducible apply lm_sB); (first | exact rfl | assumption); omega)
    | ((with_reducible apply lm_wA); (first | exact rfl | assumption); omega)
    | ((with_reducible apply lm_wJ); (first | exact rfl | assumption); omega)
    | ((with_reducible apply lm_wB); (first | exact rfl | assumption); omega)
    | ((with_reducible apply lm_sAl); (first | exact rfl | assumption); omega)
    | ((with_reducible apply lm_iW); decide))
  simp only [Nat.reduceDiv, Nat.reduceMod]
  rw [h7, lm_om]
  exact l0
theorem lm_cfl_n {a : Nat} (hj : j < 35) (ha : a ≤ 14) : (Int32.ofNat j <<< (Int32.ofNat a &&& 31)) + Int32.ofNat (lm_bts D (j * a) a) = Int32.ofNat (lm_cfl D a j a) := by
  have h2 : 2 ^ a ≤ 16384 := Nat.pow_le_pow_right (n := 2) (by decide) ha
  have h3 : j * 2 ^ a ≤ 34 * 16384 := Nat.mul_le_mul (by omega) h2
  rw [lm_slN (by omega) (by omega) (by omega), lm_oo]
  rfl
/-- the root of the forest -/
def lm_I118 (W : lm_WT) (u : Int32) (D A : Nat → Int32) (m0 : lm_MI) (n0 : lm_ML) (j : Nat) (m : lm_MI) (n : lm_ML) : Prop := lm_RX W m n ∧ (∀ r, r ≠ 203 → r ≠ 227 → r ≠ 333 → r ≠ 352 → r ≠ 354 → r ≠ 355 → m r = m0 r) ∧ lm_fG m0 n0 m n ∧ ∀ t, t < j * lm_sn W.2.1 → lm_b8 (m 352 t) = lm_hfw W u D A t
theorem lm_l118 (hs : W.2.1 ≤ 11) {m0 : lm_MI} {n0 : lm_ML} (hD : ∀ t, t < lm_fb W.2.1 → lm_b8 (m0 356 t) = D t) (hp : lm_ar p = some (1, w)) (gp : p ≠ 203 ∧ p ≠ 227 ∧ p < 333) (hbw : b + lm_fsz W.2.1 ≤ w) (hw : w ≤ 70000) (hA : ∀ t, t < lm_fsz W.2.1 → lm_b8 (m0 p (b + t)) = A t) : ∀ j, j < ln_sT W.2.1 → ∀ m n, lm_I118 W u D A m0 n0 j m n → ∃ m' n', lm_I118 W u D A m0 n0 (j + 1) m' n' ∧ ∀ R, lm_rn sc (d + 7) lm_m118.2.2.2.2.1 (lm_reg lm_m118.2.2.2.2.2) (6, [(0, .ref 203), (1, .int u), (2, .ref p), (4, .int (Int32.ofNat (b + (j + 1) * (lm_sn W.2.1 * (1 + lm_sa W.2.1))))), (5, .int (Int32.ofNat (j + 1)))], []) (lm_w m' n' x) = some R → lm_rn sc (d + 7) lm_m118.2.2.2.2.1 (lm_reg lm_m118.2.2.2.2.2) (6, [(0, .ref 203), (1, .int u), (2, .ref p), (4, .int (Int32.ofNat (b + j * (lm_sn W.2.1 * (1 + lm_sa W.2.1))))), (5, .int (Int32.ofNat j))], []) (lm_w m n x) = some R := by
  intro j hj m n ⟨i1, i2, i3, i4⟩
  have hpar := lm_spar _ hs
  have hfz := lm_fsz_b hs hj
  have hjn : j * lm_sn W.2.1 + lm_sn W.2.1 ≤ 1120 := by
    rw [← Nat.succ_mul]
    exact Nat.le_trans (Nat.mul_le_mul (show j + 1 ≤ 35 by omega) hpar.1) (by decide)
  have hfn := lm_fsz_n (s := W.2.1)
  have hcl := lm_cfl_lt (D := D) (a := lm_sa W.2.1) (j := j) (c := lm_sa W.2.1) (by omega) (by omega)
  have c0 := lm_u185 (sc := sc) (d := d + 6) (m := m) (n := n) (x := x) (D := D) hs i1.2.1.2.2.2.2.1 hj (fun t ht => by rw [i2 356 (by decide) (by decide) (by decide) (by decide) (by decide) (by decide)]; exact hD t ht)
  have ecf := lm_cfl_n (D := D) (j := j) (a := lm_sa W.2.1) (by omega) (by omega)
  generalize eO : j * (lm_sn W.2.1 * (1 + lm_sa W.2.1)) = O at hfz ⊢
  generalize eL : lm_cfl D (lm_sa W.2.1) j (lm_sa W.2.1) = Lf at hcl ecf
  obtain ⟨m1, m2, n2, c1, c2, e1, f2, g2, S2, o2, v2⟩ := lm_rth (sc := sc) (d := d + 1) (e := d + 6) (x := x) (q := p) (v := w) (a := b + O) (l := lm_sn W.2.1) (X := fun t => A (O + t)) (p := 354) (w := 64) (b := 0) (ty := Int32.ofNat 3) (u := u) (y := Int32.ofNat 0) (z := Int32.ofNat Lf) hs i1 lm_s3c.2.2.2.1 (fun _ => lm_hty3) hp ⟨gp.1, gp.2.1, by omega⟩ (by omega) hw (fun t ht => by rw [i2 p gp.1 gp.2.1 (by omega) (by omega) (by omega) (by omega), Nat.add_assoc]; exact hA _ (by omega)) rfl (by unfold lm_okp; decide) (by omega) (by decide)
  have ep : m2 p = m0 p := by rw [f2 p gp.1 gp.2.1 (by omega) (by omega), i2 p gp.1 gp.2.1 (by omega) (by omega) (by omega) (by omega)]
  obtain ⟨m3, n3, c3, S3, f3, g3, v3⟩ := lm_u188 (sc := sc) (d := d) (x := x) (ty := Int32.ofNat 3) (u := u) (I := Lf) (lv := lm_sa W.2.1) (p := p) (w := w) (b := b + O + lm_sn W.2.1) (A := fun t => A (O + lm_sn W.2.1 + t)) (V := lm_hF W (Int32.ofNat 3) u (Int32.ofNat 0) (Int32.ofNat Lf) (fun t => A (O + t)) (lm_sn W.2.1)) hs S2 (fun t ht => by have g := v2 t ht; rw [Nat.zero_add] at g; exact g) lm_s3c.2.2.2.1 lm_hty3 (by omega) (by omega) hp ⟨gp.1, gp.2.1, by omega, by omega, by omega⟩ (by omega) hw (fun t ht => by rw [ep, ← hA _ (by omega)]; congr 2; omega)
  have u4 := lm_u75 (sc := sc) (d := d + 6) (m := m3) (n := n3) (x := x) (q := 354) (p := 352) (v := 64) (w := 2048) (a := 0) (b := j * lm_sn W.2.1) (l := lm_sn W.2.1) rfl rfl (by decide) (by omega) (by omega) (by decide) (by decide)
  generalize eM : lm_fil m3 352 (j * lm_sn W.2.1) (j * lm_sn W.2.1 + lm_sn W.2.1) (fun i => lm_b8 (m3 354 (0 + (i - j * lm_sn W.2.1)))) = M at u4
  have rM : ∀ r, r ≠ 352 → M r = m3 r := fun r hr => by rw [← eM, lm_fl_row hr]
  refine ⟨M, n3, ⟨S3.keep (lm_fG.of (rM 203 (by decide))) (rM 221 (by decide)) (rM 358 (by decide)) (rM 359 (by decide)) (rM 333 (by decide)), fun r r1 r2 r3 r4 r5 r6 => by rw [rM r r4, f3 r r1 r2 r3 r5 r6, f2 r r1 r2 r3 r5, i2 r r1 r2 r3 r4 r5 r6], i3.tr (g2.tr (g3.tr (lm_fG.of (rM 203 (by decide))))), fun t ht => ?_⟩, fun R KK => ?_⟩
  · rw [Nat.succ_mul] at ht
    by_cases c : t < j * lm_sn W.2.1
    · rw [← eM, lm_fl_out (by omega), f3 352 (by decide) (by decide) (by decide) (by decide) (by decide), f2 352 (by decide) (by decide) (by decide) (by decide)]
      exact i4 t c
    · obtain ⟨i, rfl⟩ : ∃ i, t = j * lm_sn W.2.1 + i := ⟨t - j * lm_sn W.2.1, by omega⟩
      have hi : i < lm_sn W.2.1 := by omega
      rw [← eM, lm_fl_in (by omega), lm_b8b8, Nat.add_sub_cancel_left, Nat.zero_add, v3 i hi]
      unfold lm_hfw
      rw [(lm_dmn hi).1, (lm_dmn hi).2]
      unfold lm_hfl
      rw [eO, eL]
  · have e67 : ∀ M' : lm_MI, M' 203 67 = m 203 67 → M' 203 67 = Int32.ofNat (lm_sn W.2.1) := fun M' e => by rw [e]; exact i1.2.1.1
    have e71 : m 203 71 = Int32.ofNat (lm_sa W.2.1) := i1.2.1.2.2.2.2.1
    have S2f := S2.2.1
    have S3f := S3.2.1
    clear v2 v3 o2 hA i4 hD
    refine lm_e118_6 ?_
    unfold lm_q118_6
    rw [lm_K0, lm_K1, lm_K3, lm_oo]
    repeat (first
    | ((with_reducible apply lm_sI); exact rfl)
    | ((with_reducible apply lm_sR); exact rfl)
    | ((with_reducible apply lm_sS); exact rfl; exact rfl)
    | ((with_reducible apply lm_sL); exact rfl)
    | ((with_reducible apply lm_sP); exact rfl; exact rfl)
    | ((with_reducible apply lm_sPL); exact rfl; exact rfl)
    | ((with_reducible apply lm_sAA); exact rfl; exact rfl)
    | ((with_reducible apply lm_sA); (first | exact rfl | assumption); omega)
    | ((with_reducible apply lm_sJ); (first | exact rfl | assumption); omega)
    | ((with_reducible apply lm_sB); (first | exact rfl | assumption); omega)
    | ((with_reducible apply lm_wA); (first | exact rfl | assumption); omega)
    | ((with_reducible apply lm_wJ); (first | exact rfl | assumption); omega)
    | ((with_reducible apply lm_wB); (first | exact rfl | assumption); omega)
    | ((with_reducible apply lm_sAl); (first | exact rfl | assumption); omega)
    | ((with_reducible apply lm_iW); decide))
    simp only [Nat.reduceDiv, Nat.reduceMod]
    rw [i1.2.1.2.2.2.2.2.1]
    refine lm_geF (by omega) (by omega) (by omega) ?_
    repeat (first
    | ((with_reducible apply lm_sI); exact rfl)
    | ((with_reducible apply lm_sR); exact rfl)
    | ((with_reducible apply lm_sS); exact rfl; exact rfl)
    | ((with_reducible apply lm_sL); exact rfl)
    | ((with_reducible apply lm_sP); exact rfl; exact rfl)
    | ((with_reducible apply lm_sPL); exact rfl; exact rfl)
    | ((with_reducible apply lm_sAA); exact rfl; exact rfl)
    | ((with_reducible apply lm_sA); (first | exact rfl | assumption); omega)
    | ((with_reducible apply lm_sJ); (first | exact rfl | assumption); omega)
    | ((with_reducible apply lm_sB); (first | exact rfl | assumption); omega)
    | ((with_reducible apply lm_wA); (first | exact rfl | assumption); omega)
    | ((with_reducible apply lm_wJ); (first | exact rfl | assumption); omega)
    | ((with_reducible apply lm_wB); (first | exact rfl | assumption); omega)
    | ((with_reducible apply lm_sAl); (first | exact rfl | assumption); omega)
    | ((with_reducible apply lm_iW); decide))
    refine lm_cI c0 ?_
    simp only [Nat.reduceDiv, Nat.reduceMod]
    rw [e71, ecf]
    repeat (first
    | ((with_reducible apply lm_sI); exact rfl)
    | ((with_reducible apply lm_sR); exact rfl)
    | ((with_reducible apply lm_sS); exact rfl; exact rfl)
    | ((with_reducible apply lm_sL); exact rfl)
    | ((with_reducible apply lm_sP); exact rfl; exact rfl)
    | ((with_reducible apply lm_sPL); exact rfl; exact rfl)
    | ((with_reducible apply lm_sAA); exact rfl; exact rfl)
    | ((with_reducible apply lm_sA); (first | exact rfl | assumption); omega)
    | ((with_reducible apply lm_sJ); (first | exact rfl | assumption); omega)
    | ((with_reducible apply lm_sB); (first | exact rfl | assumption); omega)
    | ((with_reducible apply lm_wA); (first | exact rfl | assumption); omega)
    | ((with_reducible apply lm_wJ); (first | exact rfl | assumption); omega)
    | ((with_reducible apply lm_wB); (first | exact rfl | assumption); omega)
    | ((with_reducible apply lm_sAl); (first | exact rfl | assumption); omega)
    | ((with_reducible apply lm_iW); decide))
    refine lm_cV c1 ?_
    repeat (first
    | ((with_reducible apply lm_sI); exact rfl)
    | ((with_reducible apply lm_sR); exact rfl)
    | ((with_reducible apply lm_sS); exact rfl; exact rfl)
    | ((with_reducible apply lm_sL); exact rfl)
    | ((with_reducible apply lm_sP); exact rfl; exact rfl)
    | ((with_reducible apply lm_sPL); exact rfl; exact rfl)
    | ((with_reducible apply lm_sAA); exact rfl; exact rfl)
    | ((with_reducible apply lm_sA); (first | exact rfl | assumption); omega)
    | ((with_reducible apply lm_sJ); (first | exact rfl | assumption); omega)
    | ((with_reducible apply lm_sB); (first | exact rfl | assumption); omega)
    | ((with_reducible apply lm_wA); (first | exact rfl | assumption); omega)
    | ((with_reducible apply lm_wJ); (first | exact rfl | assumption); omega)
    | ((with_reducible apply lm_wB); (first | exact rfl | assumption); omega)
    | ((with_reducible apply lm_sAl); (first | exact rfl | assumption); omega)
    | ((with_reducible apply lm_iW); decide))
    simp only [Nat.reduceDiv, Nat.reduceMod]
    rw [e1, i1.2.1.1]
    refine lm_cV c2 ?_
    repeat (first
    | ((with_reducible apply lm_sI); exact rfl)
    | ((with_reducible apply lm_sR); exact rfl)
    | ((with_reducible apply lm_sS); exact rfl; exact rfl)
    | ((with_reducible apply lm_sL); exact rfl)
    | ((with_reducible apply lm_sP); exact rfl; exact rfl)
    | ((with_reducible apply lm_sPL); exact rfl; exact rfl)
    | ((with_reducible apply lm_sAA); exact rfl; exact rfl)
    | ((with_reducible apply lm_sA); (first | exact rfl | assumption); omega)
    | ((with_reducible apply lm_sJ); (first | exact rfl | assumption); omega)
    | ((with_reducible apply lm_sB); (first | exact rfl | assumption); omega)
    | ((with_reducible apply lm_wA); (first | exact rfl | assumption); omega)
    | ((with_reducible apply lm_wJ); (first | exact rfl | assumption); omega)
    | ((with_reducible apply lm_wB); (first | exact rfl | assumption); omega)
    | ((with_reducible apply lm_sAl); (first | exact rfl | assumption); omega)
    | ((with_reducible apply lm_iW); decide))
    simp only [Nat.reduceDiv, Nat.reduceMod]
    rw [S2f.2.2.2.2.1, S2f.1, lm_oo]
    refine lm_cV c3 ?_
    repeat (first
    | ((with_reducible apply lm_sI); exact rfl)
    | ((with_reducible apply lm_sR); exact rfl)
    | ((with_reducible apply lm_sS); exact rfl; exact rfl)
    | ((with_reducible apply lm_sL); exact rfl)
    | ((with_reducible apply lm_sP); exact rfl; exact rfl)
    | ((with_reducible apply lm_sPL); exact rfl; exact rfl)
    | ((with_reducible apply lm_sAA); exact rfl; exact rfl)
    | ((with_reducible apply lm_sA); (first | exact rfl | assumption); omega)
    | ((with_reducible apply lm_sJ); (first | exact rfl | assumption); omega)
    | ((with_reducible apply lm_sB); (first | exact rfl | assumption); omega)
    | ((with_reducible apply lm_wA); (first | exact rfl | assumption); omega)
    | ((with_reducible apply lm_wJ); (first | exact rfl | assumption); omega)
    | ((with_reducible apply lm_wB); (first | exact rfl | assumption); omega)
    | ((with_reducible apply lm_sAl); (first | exact rfl | assumption); omega)
    | ((with_reducible apply lm_iW); decide))
    simp only [Nat.reduceDiv, Nat.reduceMod]
    rw [S3f.1, lm_om]
    refine lm_cV u4 ?_
    repeat (first
    | ((with_reducible apply lm_sI); exact rfl)
    | ((with_reducible apply lm_sR); exact rfl)
    | ((with_reducible apply lm_sS); exact rfl; exact rfl)
    | ((with_reducible apply lm_sL); exact rfl)
    | ((with_reducible apply lm_sP); exact rfl; exact rfl)
    | ((with_reducible apply lm_sPL); exact rfl; exact rfl)
    | ((with_reducible apply lm_sAA); exact rfl; exact rfl)
    | ((with_reducible apply lm_sA); (first | exact rfl | assumption); omega)
    | ((with_reducible apply lm_sJ); (first | exact rfl | assumption); omega)
    | ((with_reducible apply lm_sB); (first | exact rfl | assumption); omega)
    | ((with_reducible apply lm_wA); (first | exact rfl | assumption); omega)
    | ((with_reducible apply lm_wJ); (first | exact rfl | assumption); omega)
    | ((with_reducible apply lm_wB); (first | exact rfl | assumption); omega)
    | ((with_reducible apply lm_sAl); (first | exact rfl | assumption); omega)
    | ((with_reducible apply lm_iW); decide))
    simp only [Nat.reduceDiv, Nat.reduceMod]
    rw [rM 203 (by decide), S3f.1, S3f.2.2.2.2.1, lm_oo, lm_om, lm_oo, Nat.mul_comm (1 + lm_sa W.2.1)]
    rw [Nat.succ_mul, eO, ← Nat.add_assoc] at KK
    exact KK
theorem lm_u118 (hs : W.2.1 ≤ 11) (h : lm_RX W m n) (hD : ∀ t, t < lm_fb W.2.1 → lm_b8 (m 356 t) = D t) (hp : lm_ar p = some (1, w)) (gp : p ≠ 203 ∧ p ≠ 227 ∧ p < 333) (hbw : b + lm_fsz W.2.1 ≤ w) (hw : w ≤ 70000) (hA : ∀ t, t < lm_fsz W.2.1 → lm_b8 (m p (b + t)) = A t) : ∃ m' n', lm_cal sc (d + 8) 118 [.ref 203, .int u, .ref p, .int (Int32.ofNat b)] (lm_w m n x) = some (.ok none, lm_w m' n' x) ∧ lm_RX W m' n' ∧ (∀ r, r ≠ 203 → r ≠ 227 → r ≠ 333 → r ≠ 352 → r ≠ 354 → r ≠ 355 → m' r = m r) ∧ lm_fG m n m' n' ∧ ∀ t, t < lm_sn W.2.1 → lm_b8 (m' 354 t) = lm_hfr W u D A t := by
  have hpar := lm_spar _ hs
  have hTn : ln_sT W.2.1 * lm_sn W.2.1 ≤ 1120 := Nat.le_trans (Nat.mul_le_mul hpar.2.2.2.2.2.2.2.2.1 hpar.1) (by decide)
  obtain ⟨m1, n1, ⟨i1, i2, i3, i4⟩, k1⟩ := lm_lp (fr := fun j => (6, [(0, .ref 203), (1, .int u), (2, .ref p), (4, .int (Int32.ofNat (b + j * (lm_sn W.2.1 * (1 + lm_sa W.2.1))))), (5, .int (Int32.ofNat j))], [])) (lm_l118 (sc := sc) (u := u) (d := d) (x := x) (p := p) (b := b) (m0 := m) (n0 := n) hs hD hp gp hbw hw hA) (ln_sT W.2.1) 0 (Nat.zero_add _) m n ⟨h, fun _ _ _ _ _ _ _ => rfl, lm_fG.rf, fun t ht => absurd ht (by rw [Nat.zero_mul]; omega)⟩
  obtain ⟨m2, m3, n3, c2, c3, e2, f3, g3, S3, o3, v3⟩ := lm_rth (sc := sc) (d := d + 1) (e := d + 6) (x := x) (q := 352) (v := 2048) (a := 0) (l := ln_sT W.2.1 * lm_sn W.2.1) (X := lm_hfw W u D A) (p := 354) (w := 64) (b := 0) (ty := Int32.ofNat 4) (u := u) (y := Int32.ofNat 0) (z := Int32.ofNat 0) hs i1 lm_s3c.2.2.2.2.1 (fun _ => by decide) rfl (by unfold lm_okq; decide) (by omega) (by decide) (fun t ht => by rw [Nat.zero_add]; exact i4 t ht) rfl (by unfold lm_okp; decide) (by omega) (by decide)
  refine ⟨m3, n3, ?_, S3, fun r r1 r2 r3 r4 r5 r6 => by rw [f3 r r1 r2 r3 r5, i2 r r1 r2 r3 r4 r5 r6], i3.tr g3, fun t ht => by have g := v3 t ht; rw [Nat.zero_add] at g; exact g⟩
  clear i4 v3 o3 hA hD
  rw [Nat.zero_mul, Nat.add_zero] at k1
  refine lm_cal_of (Y := lm_m118) rfl rfl (lm_e118_0 ?_)
  unfold lm_q118_0
  rw [lm_K0]
  refine k1 _ ?_
  refine lm_e118_6 ?_
  unfold lm_q118_6
  rw [lm_K0, lm_K1, lm_K3, show Int32.ofInt 4 = Int32.ofNat 4 from rfl]
  repeat (first
    | ((with_reducible apply lm_sI); exact rfl)
    | ((with_reducible apply lm_sR); exact rfl)
    | ((with_reducible apply lm_sS); exact rfl; exact rfl)
    | ((with_reducible apply lm_sL); exact rfl)
    | ((with_reducible apply lm_sP); exact rfl; exact rfl)
    | ((with_reducible apply lm_sPL); exact rfl; exact rfl)
    | ((with_reducible apply lm_sAA); exact rfl; exact rfl)
    | ((with_reducible apply lm_sA); (first | exact rfl | assumption); omega)
    | ((with_reducible apply lm_sJ); (first | exact rfl | assumption); omega)
    | ((with_reducible apply lm_sB); (first | exact rfl | assumption); omega)
    | ((with_reducible apply lm_wA); (first | exact rfl | assumption); omega)
    | ((with_reducible apply lm_wJ); (first | exact rfl | assumption); omega)
    | ((with_reducible apply lm_wB); (first | exact rfl | assumption); omega)
    | ((with_reducible apply lm_sAl); (first | exact rfl | assumption); omega)
    | ((with_reducible apply lm_iW); decide))
  simp only [Nat.reduceDiv, Nat.reduceMod]
  rw [i1.2.1.2.2.2.2.2.1]
  refine lm_geT (by omega) (by omega) (Nat.le_refl _) ?_
  repeat (first
    | ((with_reducible apply lm_sI); exact rfl)
    | ((with_reducible apply lm_sR); exact rfl)
    | ((with_reducible apply lm_sS); exact rfl; exact rfl)
    | ((with_reducible apply lm_sL); exact rfl)
    | ((with_reducible apply lm_sP); exact rfl; exact rfl)
    | ((with_reducible apply lm_sPL); exact rfl; exact rfl)
    | ((with_reducible apply lm_sAA); exact rfl; exact rfl)
    | ((with_reducible apply lm_sA); (first | exact rfl | assumption); omega)
    | ((with_reducible apply lm_sJ); (first | exact rfl | assumption); omega)
    | ((with_reducible apply lm_sB); (first | exact rfl | assumption); omega)
    | ((with_reducible apply lm_wA); (first | exact rfl | assumption); omega)
    | ((with_reducible apply lm_wJ); (first | exact rfl | assumption); omega)
    | ((with_reducible apply lm_wB); (first | exact rfl | assumption); omega)
    | ((with_reducible apply lm_sAl); (first | exact rfl | assumption); omega)
    | ((with_reducible apply lm_iW); decide))
  refine lm_cV c2 ?_
  repeat (first
    | ((with_reducible apply lm_sI); exact rfl)
    | ((with_reducible apply lm_sR); exact rfl)
    | ((with_reducible apply lm_sS); exact rfl; exact rfl)
    | ((with_reducible apply lm_sL); exact rfl)
    | ((with_reducible apply lm_sP); exact rfl; exact rfl)
    | ((with_reducible apply lm_sPL); exact rfl; exact rfl)
    | ((with_reducible apply lm_sAA); exact rfl; exact rfl)
    | ((with_reducible apply lm_sA); (first | exact rfl | assumption); omega)
    | ((with_reducible apply lm_sJ); (first | exact rfl | assumption); omega)
    | ((with_reducible apply lm_sB); (first | exact rfl | assumption); omega)
    | ((with_reducible apply lm_wA); (first | exact rfl | assumption); omega)
    | ((with_reducible apply lm_wJ); (first | exact rfl | assumption); omega)
    | ((with_reducible apply lm_wB); (first | exact rfl | assumption); omega)
    | ((with_reducible apply lm_sAl); (first | exact rfl | assumption); omega)
    | ((with_reducible apply lm_iW); decide))
  simp only [Nat.reduceDiv, Nat.reduceMod]
  rw [e2, i1.2.1.2.2.2.2.2.1, i1.2.1.1, lm_om]
  exact lm_cV c3 rfl
end LMUC
