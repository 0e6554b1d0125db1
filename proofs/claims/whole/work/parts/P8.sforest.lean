/-! ===== SLH of the class: what the digest chooses; the forest's root ===== -/
def lm_tbt (D : Nat → Int32) (k : Nat) : Nat := ((lm_yb (D (k / 8))).testBit (7 - k % 8)).toNat
def lm_bts (D : Nat → Int32) (p : Nat) : Nat → Nat
  | 0 => 0
  | c + 1 => lm_bts D p c * 2 + lm_tbt D (p + c)
theorem lm_tbt_lt {D : Nat → Int32} {k : Nat} : lm_tbt D k < 2 := by
  unfold lm_tbt
  cases (lm_yb (D (k / 8))).testBit (7 - k % 8) <;> decide
theorem lm_bts_lt {D : Nat → Int32} {p : Nat} : ∀ c, lm_bts D p c < 2 ^ c := by
  intro c
  induction c with
  | zero => exact Nat.zero_lt_one
  | succ c ih =>
    have h := lm_tbt_lt (D := D) (k := p + c)
    show lm_bts D p c * 2 + lm_tbt D (p + c) < 2 ^ (c + 1)
    rw [Nat.pow_succ]
    omega
/-- the leaf that is chosen in a tree of the forest -/
def lm_cfl (D : Nat → Int32) (a j c : Nat) : Nat := j * 2 ^ c + lm_bts D (j * a) c
theorem lm_cfl_s {D : Nat → Int32} {a j c : Nat} : lm_tbt D (j * a + c) + lm_cfl D a j c * 2 ^ 1 = lm_cfl D a j (c + 1) := by
  unfold lm_cfl
  show _ = j * 2 ^ (c + 1) + (lm_bts D (j * a) c * 2 + lm_tbt D (j * a + c))
  rw [show 2 ^ (c + 1) = 2 ^ c * 2 from Nat.pow_succ .., show (2 : Nat) ^ 1 = 2 from rfl, ← Nat.mul_assoc, Nat.add_mul]
  omega
theorem lm_cfl_lt {D : Nat → Int32} {a j c : Nat} (hj : j < 35) (hc : c ≤ 14) : lm_cfl D a j c < 589824 := by
  have h1 := lm_bts_lt (D := D) (p := j * a) c
  have h2 : 2 ^ c ≤ 16384 := Nat.pow_le_pow_right (n := 2) (by decide) hc
  have h3 : j * 2 ^ c ≤ 34 * 16384 := Nat.mul_le_mul (by omega) h2
  unfold lm_cfl
  omega
def lm_fb (s : Nat) : Nat := (ln_sT s * lm_sa s + 7) / 8
def lm_tB (s : Nat) : Nat := (lm_sHt s - lm_sh s + 7) / 8
def lm_lb (s : Nat) : Nat := (lm_sh s + 7) / 8
theorem lm_spar2 : ∀ s, s ≤ 11 → lm_fb s ≤ 48 ∧ lm_tB s ≤ 8 ∧ lm_lb s ≤ 2 ∧ lm_fb s + lm_tB s + lm_lb s ≤ 50 ∧ ln_sT s * lm_sa s ≤ 8 * lm_fb s ∧ 1 ≤ lm_tB s ∧ 1 ≤ lm_lb s := by decide
theorem lm_bit8 (v : Int32) {r : Nat} (hr : r < 8) : (lm_b8 v >>> (Int32.ofNat r &&& 31)) &&& Int32.ofNat 1 = Int32.ofNat ((lm_yb v).testBit r).toNat := by
  rw [← lm_yb_tb v hr]
  exact lm_bit1 (lm_b8 v) (by omega)
section LMSY
variable {xs : List Int32} {sc : lm_H} {d s : Nat} {W : lm_WT} {m m' : lm_MI} {n n' : lm_ML} {x : lm_H × Nat × Nat} {D A : Nat → Int32} {u : Int32} {p w b j : Nat}
theorem lm_u262 (hs : s ≤ 11) (h7 : m 194 7 = Int32.ofNat (lm_sa s)) (hj : j < ln_sT s) (hD : ∀ t, t < lm_fb s → lm_b8 (m 201 t) = D t) : lm_cal sc (d + 1) 262 [.ref 194, .int (Int32.ofNat j)] (lm_w m n x) = some (.ok (some (.int (Int32.ofNat (lm_cfl D (lm_sa s) j (lm_sa s))))), lm_w m n x) := by
  have hpar := lm_spar s hs
  have hp2 := lm_spar2 s hs
  have hja : j * lm_sa s + lm_sa s ≤ ln_sT s * lm_sa s := by rw [← Nat.succ_mul]; exact Nat.mul_le_mul_right _ hj
  have lp : ∀ k c, c + k = lm_sa s → lm_rn sc d lm_m262.2.2.2.2.1 (lm_reg lm_m262.2.2.2.2.2) (9, [(0, .ref 194), (1, .int (Int32.ofNat j)), (2, .int (Int32.ofNat (lm_cfl D (lm_sa s) j c))), (3, .int (Int32.ofNat (j * lm_sa s + c)))], []) (lm_w m n x) = some (.ok (some (.int (Int32.ofNat (lm_cfl D (lm_sa s) j (lm_sa s))))), lm_w m n x) := by
    intro k
    induction k with
    | zero =>
      intro c hc
      have hc : c = lm_sa s := hc
      subst hc
      refine lm_e262_9 ?_
      unfold lm_q262_9
      rw [lm_K1, lm_oo]
      repeat (first
    | ((with_reducible apply lm_sI); exact rfl)
    | ((with_reducible apply lm_sR); exact rfl)
    | ((with_reducible apply lm_sS); exact rfl; exact rfl)
    | ((with_reducible apply lm_sL); exact rfl)
    | ((with_reducible apply lm_sP); exact rfl; exact rfl)
    | ((with_reducible apply lm_sPL); exact rfl; exact rfl)
    | ((with_reducible apply lm_sAA); exact rfl; exact rfl)
    | ((with_reducible apply lm_sA); (first | exact rfl | assumption); omega)
    | ((with_reducible apply lm_sJ); (first | exact rfl | assumption); omega)
    | ((with_reducible apply lm_sB); (first | exact rfl | assumption); omega)
    | ((with_reducible apply lm_wA); (first | exact rfl | assumption); omega)
    | ((with_reducible apply lm_wJ); (first | exact rfl | assumption); omega)
    | ((with_reducible apply lm_wB); (first | exact rfl | assumption); omega)
    | ((with_reducible apply lm_sAl); (first | exact rfl | assumption); omega)
    | ((with_reducible apply lm_iW); decide))
      simp only [Nat.reduceDiv, Nat.reduceMod]
      rw [h7, lm_om, Nat.succ_mul]
      exact lm_geT (by omega) (by omega) (Nat.le_refl _) rfl
    | succ k ih =>
      intro c hc
      have hcl := lm_cfl_lt (D := D) (a := lm_sa s) (j := j) (c := c) (by omega) (by omega)
      have ht := lm_tbt_lt (D := D) (k := j * lm_sa s + c)
      have eb : (lm_b8 (m 201 ((j * lm_sa s + c) / 8)) >>> (Int32.ofNat (7 - (j * lm_sa s + c) % 8) &&& 31)) &&& Int32.ofNat 1 = Int32.ofNat (lm_tbt D (j * lm_sa s + c)) := by
        rw [lm_bit8 _ (by omega)]
        unfold lm_tbt
        rw [← hD _ (by omega), lm_yb_b8]
      have ea : Int32.ofNat (j * lm_sa s + c) &&& Int32.ofNat 7 = Int32.ofNat ((j * lm_sa s + c) % 8) := lm_andm (k := 3) (by omega) (by decide)
      have e3 : Int32.ofNat (j * lm_sa s + c) >>> (Int32.ofNat 3 &&& 31) = Int32.ofNat ((j * lm_sa s + c) / 8) := lm_srN (b := 3) (by decide) (by omega)
      refine lm_e262_9 ?_
      unfold lm_q262_9
      rw [lm_K1, lm_K3, show Int32.ofInt 7 = Int32.ofNat 7 from rfl, lm_oo, lm_oo, ea, e3, lm_osu (by omega)]
      repeat (first
    | ((with_reducible apply lm_sI); exact rfl)
    | ((with_reducible apply lm_sR); exact rfl)
    | ((with_reducible apply lm_sS); exact rfl; exact rfl)
    | ((with_reducible apply lm_sL); exact rfl)
    | ((with_reducible apply lm_sP); exact rfl; exact rfl)
    | ((with_reducible apply lm_sPL); exact rfl; exact rfl)
    | ((with_reducible apply lm_sAA); exact rfl; exact rfl)
    | ((with_reducible apply lm_sA); (first | exact rfl | assumption); omega)
    | ((with_reducible apply lm_sJ); (first | exact rfl | assumption); omega)
    | ((with_reducible apply lm_sB); (first | exact rfl | assumption); omega)
    | ((with_reducible apply lm_wA); (first | exact rfl | assumption); omega)
    | ((with_reducible apply lm_wJ); (first | exact rfl | assumption); omega)
    | ((with_reducible apply lm_wB); (first | exact rfl | assumption); omega)
    | ((with_reducible apply lm_sAl); (first | exact rfl | assumption); omega)
    | ((with_reducible apply lm_iW); decide))
      simp only [Nat.reduceDiv, Nat.reduceMod]
      rw [h7, lm_om, Nat.succ_mul]
      refine lm_geF (by omega) (by omega) (by omega) ?_
      repeat (first
    | ((with_reducible apply lm_sI); exact rfl)
    | ((with_reducible apply lm_sR); exact rfl)
    | ((with_reducible apply lm_sS); exact rfl; exact rfl)
    | ((with_reducible apply lm_sL); exact rfl)
    | ((with_reducible apply lm_sP); exact rfl; exact rfl)
    | ((with_reducible apply lm_sPL); exact rfl; exact rfl)
    | ((with_reducible apply lm_sAA); exact rfl; exact rfl)
    | ((with_reducible apply lm_sA); (first | exact rfl | assumption); omega)
    | ((with_reducible apply lm_sJ); (first | exact rfl | assumption); omega)
    | ((with_reducible apply lm_sB); (first | exact rfl | assumption); omega)
    | ((with_reducible apply lm_wA); (first | exact rfl | assumption); omega)
    | ((with_reducible apply lm_wJ); (first | exact rfl | assumption); omega)
    | ((with_reducible apply lm_wB); (first | exact rfl | assumption); omega)
    | ((with_reducible apply lm_sAl); (first | exact rfl | assumption); omega)
    | ((with_reducible apply lm_iW); decide))
      rw [eb, Int32.or_comm, lm_orsh (b := 1) (by omega) (by decide) (by omega), lm_cfl_s]
      exact ih (c + 1) (by omega)
  have e0 : lm_cfl D (lm_sa s) j 0 = j := by
    unfold lm_cfl
    rw [Nat.pow_zero, Nat.mul_one]
    rfl
  have l0 := lp (lm_sa s) 0 (Nat.zero_add _)
  rw [e0, Nat.add_zero] at l0
  refine lm_cal_of (Y := lm_m262) rfl rfl (lm_e262_0 ?_)
  unfold lm_q262_0
  repeat (first
    | ((with_reducible apply lm_sI); exact rfl)
    | ((with_reducible apply lm_sR); exact rfl)
    | ((with_reducible apply lm_sS); exact rfl; exact rfl)
    | ((with_reducible apply lm_sL); exact rfl)
    | ((with_reducible apply lm_sP); exact rfl; exact rfl)
    | ((with_reducible apply lm_sPL); exact rfl; exact rfl)
    | ((with_reducible apply lm_sAA); exact rfl; exact rfl)
    | ((with_reducible apply lm_sA); (first | exact rfl | assumption); omega)
    | ((with_reducible apply lm_sJ); (first | exact rfl | assumption); omega)
    | ((with_reducible apply lm_sB); (first | exact rfl | assumption); omega)
    | ((with_reducible apply lm_wA); (first | exact rfl | assumption); omega)
    | ((with_reducible apply lm_wJ); (first | exact rfl | assumption); omega)
    | ((with_reducible apply lm_wB); (first | exact rfl | assumption); omega)
    | ((with_reducible apply lm_sAl); (first | exact rfl | assumption); omega)
    | ((with_reducible apply lm_iW); decide))
  simp only [Nat.reduceDiv, Nat.reduceMod]
  rw [h7, lm_om]
  exact l0
/-- one tree of the forest; the forest -/
def lm_hfl (W : lm_WT) (u : Int32) (D A : Nat → Int32) (j : Nat) : Nat → Int32 := lm_hcl W (Int32.ofNat 3) u (lm_cfl D (lm_sa W.2.1) j (lm_sa W.2.1)) (fun t => A (j * (lm_sn W.2.1 * (1 + lm_sa W.2.1)) + lm_sn W.2.1 + t)) (lm_hF W (Int32.ofNat 3) u (Int32.ofNat 0) (Int32.ofNat (lm_cfl D (lm_sa W.2.1) j (lm_sa W.2.1))) (fun t => A (j * (lm_sn W.2.1 * (1 + lm_sa W.2.1)) + t)) (lm_sn W.2.1)) (lm_sa W.2.1)
def lm_hfw (W : lm_WT) (u : Int32) (D A : Nat → Int32) (t : Nat) : Int32 := lm_hfl W u D A (t / lm_sn W.2.1) (t % lm_sn W.2.1)
def lm_hfr (W : lm_WT) (u : Int32) (D A : Nat → Int32) : Nat → Int32 := lm_hF W (Int32.ofNat 4) u (Int32.ofNat 0) (Int32.ofNat 0) (lm_hfw W u D A) (ln_sT W.2.1 * lm_sn W.2.1)
/-- the bytes of the forest in a packet -/
def lm_fsz (s : Nat) : Nat := ln_sT s * (lm_sn s * (1 + lm_sa s))
theorem lm_fsz_b {s j : Nat} (hs : s ≤ 11) (hj : j < ln_sT s) : j * (lm_sn s * (1 + lm_sa s)) + lm_sn s * (1 + lm_sa s) ≤ lm_fsz s := by
  unfold lm_fsz
  rw [← Nat.succ_mul]
  exact Nat.mul_le_mul_right _ hj
theorem lm_fsz_n {s : Nat} : lm_sn s * (1 + lm_sa s) = lm_sn s + lm_sa s * lm_sn s := by rw [Nat.mul_add, Nat.mul_one, Nat.mul_comm (lm_sn s) (lm_sa s)]
def lm_I265 (W : lm_WT) (u : Int32) (D A : Nat → Int32) (m0 : lm_MI) (n0 : lm_ML) (j : Nat) (m : lm_MI) (n : lm_ML) : Prop := lm_SX W m n ∧ (∀ r, (r < 5 ∨ 22 < r) → r ≠ 195 → r ≠ 197 → r ≠ 198 → r ≠ 199 → m r = m0 r) ∧ lm_fN m0 n0 m n ∧ ∀ t, t < j * lm_sn W.2.1 → lm_b8 (m 199 t) = lm_hfw W u D A t
theorem lm_l265 (hC : lm_Cok xs W.1) (hs : W.2.1 ≤ 11) {m0 : lm_MI} {n0 : lm_ML} (hD : ∀ t, t < lm_fb W.2.1 → lm_b8 (m0 201 t) = D t) (hp : lm_ar p = some (1, w)) (gp : 22 < p) (gp5 : p ≠ 195) (gp7 : p ≠ 197) (gp8 : p ≠ 198) (gp9 : p ≠ 199) (hbw : b + lm_fsz W.2.1 ≤ w) (hw : w ≤ 70000) (hA : ∀ t, t < lm_fsz W.2.1 → lm_b8 (m0 p (b + t)) = A t) : ∀ j, j < ln_sT W.2.1 → ∀ m n, lm_I265 W u D A m0 n0 j m n → ∃ m' n', lm_I265 W u D A m0 n0 (j + 1) m' n' ∧ ∀ R, lm_rn (lm_sc xs) (d + 6) lm_m265.2.2.2.2.1 (lm_reg lm_m265.2.2.2.2.2) (6, [(0, .ref 194), (1, .int u), (2, .ref p), (4, .int (Int32.ofNat (b + (j + 1) * (lm_sn W.2.1 * (1 + lm_sa W.2.1))))), (5, .int (Int32.ofNat (j + 1)))], []) (lm_w m' n' x) = some R → lm_rn (lm_sc xs) (d + 6) lm_m265.2.2.2.2.1 (lm_reg lm_m265.2.2.2.2.2) (6, [(0, .ref 194), (1, .int u), (2, .ref p), (4, .int (Int32.ofNat (b + j * (lm_sn W.2.1 * (1 + lm_sa W.2.1))))), (5, .int (Int32.ofNat j))], []) (lm_w m n x) = some R := by
  intro j hj m n ⟨i1, i2, i3, i4⟩
  have hpar := lm_spar _ hs
  have hfz := lm_fsz_b hs hj
  have hjn : j * lm_sn W.2.1 + lm_sn W.2.1 ≤ 1120 := by
    rw [← Nat.succ_mul]
    exact Nat.le_trans (Nat.mul_le_mul (show j + 1 ≤ 35 by omega) hpar.1) (by decide)
  generalize eO : j * (lm_sn W.2.1 * (1 + lm_sa W.2.1)) = O at hfz ⊢
  have hfn := lm_fsz_n (s := W.2.1)
  have hcl := lm_cfl_lt (D := D) (a := lm_sa W.2.1) (j := j) (c := lm_sa W.2.1) (by omega) (by omega)
  have c0 := lm_u262 (sc := lm_sc xs) (d := d + 5) (n := n) (x := x) (D := D) hs i1.1.1.2.2.2.2.1 hj (fun t ht => by rw [i2 201 (by decide) (by decide) (by decide) (by decide) (by decide)]; exact hD t ht)
  generalize eL : lm_cfl D (lm_sa W.2.1) j (lm_sa W.2.1) = Lf at hcl c0
  obtain ⟨m1, m2, n2, c1, c2, e1, f2, g2, S2, o2, v2⟩ := lm_nh (d := d + 1) (x := x) (q := p) (v := w) (a := b + O) (l := lm_sn W.2.1) (X := fun t => A (O + t)) (p := 197) (w := 32) (b := 0) (ty := Int32.ofNat 3) (u := u) (y := Int32.ofNat 0) (z := Int32.ofNat Lf) hC hs i1 hp gp gp5 (by omega) hw (fun t ht => by rw [i2 p (by omega) gp5 gp7 gp8 gp9, Nat.add_assoc]; exact hA _ (by omega)) rfl (by decide) (by decide) (by decide) (by omega) (by decide)
  have ep : m2 p = m0 p := by rw [f2 p (by omega) gp5 gp7, i2 p (by omega) gp5 gp7 gp8 gp9]
  obtain ⟨m3, n3, c3, S3, f3, g3, v3⟩ := lm_u305 (d := d) (x := x) (ty := Int32.ofNat 3) (u := u) (I := Lf) (lv := lm_sa W.2.1) (p := p) (w := w) (b := b + O + lm_sn W.2.1) (A := fun t => A (O + lm_sn W.2.1 + t)) (V := lm_hF W (Int32.ofNat 3) u (Int32.ofNat 0) (Int32.ofNat Lf) (fun t => A (O + t)) (lm_sn W.2.1)) hC hs S2 (fun t ht => by rw [← v2 t ht, Nat.zero_add]) (by omega) (by omega) hp gp gp5 gp7 gp8 (by omega) (fun t ht => by rw [ep, ← hA _ (by omega)]; congr 2; omega)
  generalize eM : lm_cp m3 199 (j * lm_sn W.2.1) 197 0 (lm_sn W.2.1) = M
  have rM : ∀ r, r ≠ 199 → M r = m3 r := fun r hr => by rw [← eM, lm_cp_row hr]
  refine ⟨M, n3, ⟨S3.keep (rM 194 (by decide)) (rM 195 (by decide)) (rM 196 (by decide)) (fun r _ _ => rM r (by omega)) (fun _ _ _ => rfl), fun r r1 r2 r3 r4 r5 => by rw [rM r r5, f3 r r1 r2 r3 r4, f2 r r1 r2 r3, i2 r r1 r2 r3 r4 r5], i3.tr (g2.tr ⟨g3.1, by rw [rM 11 (by decide)]; exact g3.2.1, by rw [rM 17 (by decide)]; exact g3.2.2⟩), fun t ht => ?_⟩, fun R KK => ?_⟩
  · rw [Nat.succ_mul] at ht
    by_cases c : t < j * lm_sn W.2.1
    · rw [← eM, lm_rc, if_neg (by omega), f3 199 (by decide) (by decide) (by decide) (by decide), f2 199 (by decide) (by decide) (by decide)]
      exact i4 t c
    · obtain ⟨i, rfl⟩ : ∃ i, t = j * lm_sn W.2.1 + i := ⟨t - j * lm_sn W.2.1, by omega⟩
      have hi : i < lm_sn W.2.1 := by omega
      rw [← eM, lm_rc, if_pos (by omega), Nat.add_sub_cancel_left, Nat.add_zero, v3 i hi]
      unfold lm_hfw
      rw [(lm_dmn hi).1, (lm_dmn hi).2]
      unfold lm_hfl
      rw [eO, eL]
  · have e4 : ∀ M' : lm_MI, M' 194 = m 194 → M' 194 4 = Int32.ofNat (lm_sn W.2.1) := fun M' e => by rw [e]; exact i1.1.1.2.1
    have e7 : ∀ M' : lm_MI, M' 194 = m 194 → M' 194 7 = Int32.ofNat (lm_sa W.2.1) := fun M' e => by rw [e]; exact i1.1.1.2.2.2.2.1
    have d2 : m2 194 = m 194 := f2 194 (by decide) (by decide) (by decide)
    have d3 : m3 194 = m 194 := by rw [f3 194 (by decide) (by decide) (by decide) (by decide), d2]
    clear v2 v3 o2 hA i4 hD
    refine lm_e265_6 ?_
    unfold lm_q265_6
    rw [lm_K0, lm_K1, lm_K3, lm_oo]
    repeat (first
    | ((with_reducible apply lm_sI); exact rfl)
    | ((with_reducible apply lm_sR); exact rfl)
    | ((with_reducible apply lm_sS); exact rfl; exact rfl)
    | ((with_reducible apply lm_sL); exact rfl)
    | ((with_reducible apply lm_sP); exact rfl; exact rfl)
    | ((with_reducible apply lm_sPL); exact rfl; exact rfl)
    | ((with_reducible apply lm_sAA); exact rfl; exact rfl)
    | ((with_reducible apply lm_sA); (first | exact rfl | assumption); omega)
    | ((with_reducible apply lm_sJ); (first | exact rfl | assumption); omega)
    | ((with_reducible apply lm_sB); (first | exact rfl | assumption); omega)
    | ((with_reducible apply lm_wA); (first | exact rfl | assumption); omega)
    | ((with_reducible apply lm_wJ); (first | exact rfl | assumption); omega)
    | ((with_reducible apply lm_wB); (first | exact rfl | assumption); omega)
    | ((with_reducible apply lm_sAl); (first | exact rfl | assumption); omega)
    | ((with_reducible apply lm_iW); decide))
    simp only [Nat.reduceDiv, Nat.reduceMod]
    rw [i1.1.1.2.2.2.2.2.1]
    refine lm_geF (by omega) (by omega) (by omega) ?_
    repeat (first
    | ((with_reducible apply lm_sI); exact rfl)
    | ((with_reducible apply lm_sR); exact rfl)
    | ((with_reducible apply lm_sS); exact rfl; exact rfl)
    | ((with_reducible apply lm_sL); exact rfl)
    | ((with_reducible apply lm_sP); exact rfl; exact rfl)
    | ((with_reducible apply lm_sPL); exact rfl; exact rfl)
    | ((with_reducible apply lm_sAA); exact rfl; exact rfl)
    | ((with_reducible apply lm_sA); (first | exact rfl | assumption); omega)
    | ((with_reducible apply lm_sJ); (first | exact rfl | assumption); omega)
    | ((with_reducible apply lm_sB); (first | exact rfl | assumption); omega)
    | ((with_reducible apply lm_wA); (first | exact rfl | assumption); omega)
    | ((with_reducible apply lm_wJ); (first | exact rfl | assumption); omega)
    | ((with_reducible apply lm_wB); (first | exact rfl | assumption); omega)
    | ((with_reducible apply lm_sAl); (first | exact rfl | assumption); omega)
    | ((with_reducible apply lm_iW); decide))
    refine lm_cI c0 ?_
    repeat (first
    | ((with_reducible apply lm_sI); exact rfl)
    | ((with_reducible apply lm_sR); exact rfl)
    | ((with_reducible apply lm_sS); exact rfl; exact rfl)
    | ((with_reducible apply lm_sL); exact rfl)
    | ((with_reducible apply lm_sP); exact rfl; exact rfl)
    | ((with_reducible apply lm_sPL); exact rfl; exact rfl)
    | ((with_reducible apply lm_sAA); exact rfl; exact rfl)
    | ((with_reducible apply lm_sA); (first | exact rfl | assumption); omega)
    | ((with_reducible apply lm_sJ); (first | exact rfl | assumption); omega)
    | ((with_reducible apply lm_sB); (first | exact rfl | assumption); omega)
    | ((with_reducible apply lm_wA); (first | exact rfl | assumption); omega)
    | ((with_reducible apply lm_wJ); (first | exact rfl | assumption); omega)
    | ((with_reducible apply lm_wB); (first | exact rfl | assumption); omega)
    | ((with_reducible apply lm_sAl); (first | exact rfl | assumption); omega)
    | ((with_reducible apply lm_iW); decide))
    refine lm_cV c1 ?_
    repeat (first
    | ((with_reducible apply lm_sI); exact rfl)
    | ((with_reducible apply lm_sR); exact rfl)
    | ((with_reducible apply lm_sS); exact rfl; exact rfl)
    | ((with_reducible apply lm_sL); exact rfl)
    | ((with_reducible apply lm_sP); exact rfl; exact rfl)
    | ((with_reducible apply lm_sPL); exact rfl; exact rfl)
    | ((with_reducible apply lm_sAA); exact rfl; exact rfl)
    | ((with_reducible apply lm_sA); (first | exact rfl | assumption); omega)
    | ((with_reducible apply lm_sJ); (first | exact rfl | assumption); omega)
    | ((with_reducible apply lm_sB); (first | exact rfl | assumption); omega)
    | ((with_reducible apply lm_wA); (first | exact rfl | assumption); omega)
    | ((with_reducible apply lm_wJ); (first | exact rfl | assumption); omega)
    | ((with_reducible apply lm_wB); (first | exact rfl | assumption); omega)
    | ((with_reducible apply lm_sAl); (first | exact rfl | assumption); omega)
    | ((with_reducible apply lm_iW); decide))
    simp only [Nat.reduceDiv, Nat.reduceMod]
    rw [e4 m1 e1]
    refine lm_cV c2 ?_
    repeat (first
    | ((with_reducible apply lm_sI); exact rfl)
    | ((with_reducible apply lm_sR); exact rfl)
    | ((with_reducible apply lm_sS); exact rfl; exact rfl)
    | ((with_reducible apply lm_sL); exact rfl)
    | ((with_reducible apply lm_sP); exact rfl; exact rfl)
    | ((with_reducible apply lm_sPL); exact rfl; exact rfl)
    | ((with_reducible apply lm_sAA); exact rfl; exact rfl)
    | ((with_reducible apply lm_sA); (first | exact rfl | assumption); omega)
    | ((with_reducible apply lm_sJ); (first | exact rfl | assumption); omega)
    | ((with_reducible apply lm_sB); (first | exact rfl | assumption); omega)
    | ((with_reducible apply lm_wA); (first | exact rfl | assumption); omega)
    | ((with_reducible apply lm_wJ); (first | exact rfl | assumption); omega)
    | ((with_reducible apply lm_wB); (first | exact rfl | assumption); omega)
    | ((with_reducible apply lm_sAl); (first | exact rfl | assumption); omega)
    | ((with_reducible apply lm_iW); decide))
    simp only [Nat.reduceDiv, Nat.reduceMod]
    rw [e7 m2 d2, e4 m2 d2, lm_oo]
    refine lm_cV c3 ?_
    repeat (first
    | ((with_reducible apply lm_sI); exact rfl)
    | ((with_reducible apply lm_sR); exact rfl)
    | ((with_reducible apply lm_sS); exact rfl; exact rfl)
    | ((with_reducible apply lm_sL); exact rfl)
    | ((with_reducible apply lm_sP); exact rfl; exact rfl)
    | ((with_reducible apply lm_sPL); exact rfl; exact rfl)
    | ((with_reducible apply lm_sAA); exact rfl; exact rfl)
    | ((with_reducible apply lm_sA); (first | exact rfl | assumption); omega)
    | ((with_reducible apply lm_sJ); (first | exact rfl | assumption); omega)
    | ((with_reducible apply lm_sB); (first | exact rfl | assumption); omega)
    | ((with_reducible apply lm_wA); (first | exact rfl | assumption); omega)
    | ((with_reducible apply lm_wJ); (first | exact rfl | assumption); omega)
    | ((with_reducible apply lm_wB); (first | exact rfl | assumption); omega)
    | ((with_reducible apply lm_sAl); (first | exact rfl | assumption); omega)
    | ((with_reducible apply lm_iW); decide))
    simp only [Nat.reduceDiv, Nat.reduceMod]
    rw [e4 m3 d3, lm_om]
    refine lm_sCp (u := 1) rfl rfl (Or.inr rfl) (by omega) (by omega) ?_
    rw [eM]
    repeat (first
    | ((with_reducible apply lm_sI); exact rfl)
    | ((with_reducible apply lm_sR); exact rfl)
    | ((with_reducible apply lm_sS); exact rfl; exact rfl)
    | ((with_reducible apply lm_sL); exact rfl)
    | ((with_reducible apply lm_sP); exact rfl; exact rfl)
    | ((with_reducible apply lm_sPL); exact rfl; exact rfl)
    | ((with_reducible apply lm_sAA); exact rfl; exact rfl)
    | ((with_reducible apply lm_sA); (first | exact rfl | assumption); omega)
    | ((with_reducible apply lm_sJ); (first | exact rfl | assumption); omega)
    | ((with_reducible apply lm_sB); (first | exact rfl | assumption); omega)
    | ((with_reducible apply lm_wA); (first | exact rfl | assumption); omega)
    | ((with_reducible apply lm_wJ); (first | exact rfl | assumption); omega)
    | ((with_reducible apply lm_wB); (first | exact rfl | assumption); omega)
    | ((with_reducible apply lm_sAl); (first | exact rfl | assumption); omega)
    | ((with_reducible apply lm_iW); decide))
    simp only [Nat.reduceDiv, Nat.reduceMod]
    rw [e4 M (by rw [rM 194 (by decide), d3]), e7 M (by rw [rM 194 (by decide), d3]), lm_oo, lm_om, lm_oo]
    rw [Nat.succ_mul, eO, ← Nat.add_assoc] at KK
    exact KK
theorem lm_u265 (hC : lm_Cok xs W.1) (hs : W.2.1 ≤ 11) (h : lm_SX W m n) (hD : ∀ t, t < lm_fb W.2.1 → lm_b8 (m 201 t) = D t) (hp : lm_ar p = some (1, w)) (gp : 22 < p) (gp5 : p ≠ 195) (gp7 : p ≠ 197) (gp8 : p ≠ 198) (gp9 : p ≠ 199) (hbw : b + lm_fsz W.2.1 ≤ w) (hw : w ≤ 70000) (hA : ∀ t, t < lm_fsz W.2.1 → lm_b8 (m p (b + t)) = A t) : ∃ m' n', lm_cal (lm_sc xs) (d + 7) 265 [.ref 194, .int u, .ref p, .int (Int32.ofNat b)] (lm_w m n x) = some (.ok none, lm_w m' n' x) ∧ lm_SX W m' n' ∧ (∀ r, (r < 5 ∨ 22 < r) → r ≠ 195 → r ≠ 197 → r ≠ 198 → r ≠ 199 → m' r = m r) ∧ lm_fN m n m' n' ∧ ∀ t, t < lm_sn W.2.1 → lm_b8 (m' 197 t) = lm_hfr W u D A t := by
  have hpar := lm_spar _ hs
  have hTn : ln_sT W.2.1 * lm_sn W.2.1 ≤ 1120 := Nat.le_trans (Nat.mul_le_mul hpar.2.2.2.2.2.2.2.2.1 hpar.1) (by decide)
  obtain ⟨m1, n1, ⟨i1, i2, i3, i4⟩, k1⟩ := lm_lp (fr := fun j => (6, [(0, .ref 194), (1, .int u), (2, .ref p), (4, .int (Int32.ofNat (b + j * (lm_sn W.2.1 * (1 + lm_sa W.2.1))))), (5, .int (Int32.ofNat j))], [])) (lm_l265 (u := u) (d := d) (x := x) (p := p) (b := b) (m0 := m) (n0 := n) hC hs hD hp gp gp5 gp7 gp8 gp9 hbw hw hA) (ln_sT W.2.1) 0 (Nat.zero_add _) m n ⟨h, fun _ _ _ _ _ _ => rfl, lm_fN.rf, fun t ht => absurd ht (by rw [Nat.zero_mul]; omega)⟩
  obtain ⟨m2, m3, n3, c2, c3, e2, f3, g3, S3, o3, v3⟩ := lm_nh (d := d + 1) (x := x) (q := 199) (v := 2144) (a := 0) (l := ln_sT W.2.1 * lm_sn W.2.1) (X := lm_hfw W u D A) (p := 197) (w := 32) (b := 0) (ty := Int32.ofNat 4) (u := u) (y := Int32.ofNat 0) (z := Int32.ofNat 0) hC hs i1 rfl (by decide) (by decide) (by omega) (by decide) (fun t ht => by rw [Nat.zero_add]; exact i4 t ht) rfl (by decide) (by decide) (by decide) (by omega) (by decide)
  refine ⟨m3, n3, ?_, S3, fun r r1 r2 r3 r4 r5 => by rw [f3 r r1 r2 r3, i2 r r1 r2 r3 r4 r5], i3.tr g3, fun t ht => by have g := v3 t ht; rw [Nat.zero_add] at g; exact g⟩
  clear i4 v3 o3 hA hD
  rw [Nat.zero_mul, Nat.add_zero] at k1
  refine lm_cal_of (Y := lm_m265) rfl rfl (lm_e265_0 ?_)
  unfold lm_q265_0
  rw [lm_K0]
  refine k1 _ ?_
  refine lm_e265_6 ?_
  unfold lm_q265_6
  rw [lm_K0, lm_K1, lm_K3, show Int32.ofInt 4 = Int32.ofNat 4 from rfl]
  repeat (first
    | ((with_reducible apply lm_sI); exact rfl)
    | ((with_reducible apply lm_sR); exact rfl)
    | ((with_reducible apply lm_sS); exact rfl; exact rfl)
    | ((with_reducible apply lm_sL); exact rfl)
    | ((with_reducible apply lm_sP); exact rfl; exact rfl)
    | ((with_reducible apply lm_sPL); exact rfl; exact rfl)
    | ((with_reducible apply lm_sAA); exact rfl; exact rfl)
    | ((with_reducible apply lm_sA); (first | exact rfl | assumption); omega)
    | ((with_reducible apply lm_sJ); (first | exact rfl | assumption); omega)
    | ((with_reducible apply lm_sB); (first | exact rfl | assumption); omega)
    | ((with_reducible apply lm_wA); (first | exact rfl | assumption); omega)
    | ((with_reducible apply lm_wJ); (first | exact rfl | assumption); omega)
    | ((with_reducible apply lm_wB); (first | exact rfl | assumption); omega)
    | ((with_reducible apply lm_sAl); (first | exact rfl | assumption); omega)
    | ((with_reducible apply lm_iW); decide))
  simp only [Nat.reduceDiv, Nat.reduceMod]
  rw [i1.1.1.2.2.2.2.2.1]
  refine lm_geT (by omega) (by omega) (Nat.le_refl _) ?_
  repeat (first
    | ((with_reducible apply lm_sI); exact rfl)
    | ((with_reducible apply lm_sR); exact rfl)
    | ((with_reducible apply lm_sS); exact rfl; exact rfl)
    | ((with_reducible apply lm_sL); exact rfl)
    | ((with_reducible apply lm_sP); exact rfl; exact rfl)
    | ((with_reducible apply lm_sPL); exact rfl; exact rfl)
    | ((with_reducible apply lm_sAA); exact rfl; exact rfl)
    | ((with_reducible apply lm_sA); (first | exact rfl | assumption); omega)
    | ((with_reducible apply lm_sJ); (first | exact rfl | assumption); omega)
    | ((with_reducible apply lm_sB); (first | exact rfl | assumption); omega)
    | ((with_reducible apply lm_wA); (first | exact rfl | assumption); omega)
    | ((with_reducible apply lm_wJ); (first | exact rfl | assumption); omega)
    | ((with_reducible apply lm_wB); (first | exact rfl | assumption); omega)
    | ((with_reducible apply lm_sAl); (first | exact rfl | assumption); omega)
    | ((with_reducible apply lm_iW); decide))
  refine lm_cV c2 ?_
  repeat (first
    | ((with_reducible apply lm_sI); exact rfl)
    | ((with_reducible apply lm_sR); exact rfl)
    | ((with_reducible apply lm_sS); exact rfl; exact rfl)
    | ((with_reducible apply lm_sL); exact rfl)
    | ((with_reducible apply lm_sP); exact rfl; exact rfl)
    | ((with_reducible apply lm_sPL); exact rfl; exact rfl)
    | ((with_reducible apply lm_sAA); exact rfl; exact rfl)
    | ((with_reducible apply lm_sA); (first | exact rfl | assumption); omega)
    | ((with_reducible apply lm_sJ); (first | exact rfl | assumption); omega)
    | ((with_reducible apply lm_sB); (first | exact rfl | assumption); omega)
    | ((with_reducible apply lm_wA); (first | exact rfl | assumption); omega)
    | ((with_reducible apply lm_wJ); (first | exact rfl | assumption); omega)
    | ((with_reducible apply lm_wB); (first | exact rfl | assumption); omega)
    | ((with_reducible apply lm_sAl); (first | exact rfl | assumption); omega)
    | ((with_reducible apply lm_iW); decide))
  simp only [Nat.reduceDiv, Nat.reduceMod]
  rw [e2, i1.1.1.2.2.2.2.2.1, i1.1.1.2.1, lm_om]
  exact lm_cV c3 rfl
end LMSY
