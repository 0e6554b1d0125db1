/-! ===== SLH of the class: leaves, nodes ===== -/
theorem lm_dmn {j n i : Nat} (hi : i < n) : (j * n + i) / n = j ∧ (j * n + i) % n = i := by
  constructor
  · rw [Nat.add_comm, Nat.add_mul_div_right _ _ (by omega), Nat.div_eq_of_lt hi, Nat.zero_add]
  · rw [Nat.add_comm, Nat.add_mul_mod_self_right, Nat.mod_eq_of_lt hi]
theorem lm_cwn {s : Nat} (hs : s ≤ 11) {j : Nat} (hj : j < lm_cw s) : j * lm_sn s + lm_sn s ≤ lm_cw s * lm_sn s ∧ lm_cw s * lm_sn s ≤ 2144 ∧ lm_cw s ≤ 67 := by
  have hpar := lm_spar s hs
  have hc : lm_cw s ≤ 67 := by unfold lm_cw; omega
  refine ⟨?_, Nat.le_trans (Nat.mul_le_mul hc hpar.1) (by decide), hc⟩
  rw [← Nat.succ_mul]
  exact Nat.mul_le_mul_right _ hj
theorem lm_dec1 (T : Nat) : Int32.ofNat (T + 1) + Int32.ofInt (-1) = Int32.ofNat T := by
  rw [← lm_oo, Int32.add_assoc, show Int32.ofNat 1 + Int32.ofInt (-1) = 0 from by decide, Int32.add_zero]
section LMSU
variable {xs : List Int32} {d : Nat} {W : lm_WT} {m m' : lm_MI} {n n' : lm_ML} {x : lm_H × Nat × Nat} {X : Nat → Int32} {ty u y z : Int32} {q v a l p w b : Nat}
def lm_I271 (W : lm_WT) (u : Int32) (m0 : lm_MI) (n0 : lm_ML) (j : Nat) (m : lm_MI) (n : lm_ML) : Prop := lm_SX W m n ∧ (∀ r, (r < 5 ∨ 22 < r) → r ≠ 195 → r ≠ 199 → m r = m0 r) ∧ lm_fN m0 n0 m n ∧ ∀ t, t < j * lm_sn W.2.1 → lm_b8 (m 199 t) = lm_hen W u t
theorem lm_l271 (hC : lm_Cok xs W.1) (hs : W.2.1 ≤ 11) {m0 : lm_MI} {n0 : lm_ML} : ∀ j, j < lm_cw W.2.1 → ∀ m n, lm_I271 W u m0 n0 j m n → ∃ m' n', lm_I271 W u m0 n0 (j + 1) m' n' ∧ ∀ R, lm_rn (lm_sc xs) (d + 5) lm_m271.2.2.2.2.1 (lm_reg lm_m271.2.2.2.2.2) (3, [(0, .ref 194), (1, .int u), (2, .ref p), (3, .int (Int32.ofNat b)), (4, .int (Int32.ofNat (j + 1)))], []) (lm_w m' n' x) = some R → lm_rn (lm_sc xs) (d + 5) lm_m271.2.2.2.2.1 (lm_reg lm_m271.2.2.2.2.2) (3, [(0, .ref 194), (1, .int u), (2, .ref p), (3, .int (Int32.ofNat b)), (4, .int (Int32.ofNat j))], []) (lm_w m n x) = some R := by
  intro j hj m n ⟨i1, i2, i3, i4⟩
  have hpar := lm_spar _ hs
  have hcw := lm_cwn hs hj
  obtain ⟨m1, m2, n2, c1, c2, e1, f2, g2, S2, o2, v2⟩ := lm_nh (d := d) (x := x) (q := 196) (v := 32) (a := 0) (l := lm_sn W.2.1) (X := W.2.2.2.1) (p := 199) (w := 2144) (b := j * lm_sn W.2.1) (ty := Int32.ofNat 5) (u := u) (y := Int32.ofNat j) (z := Int32.ofNat 0) hC hs i1 rfl (by decide) (by decide) (by omega) (by decide) (fun t ht => by rw [Nat.zero_add]; exact i1.2.2 t ht) rfl (by decide) (by decide) (by decide) (by omega) (by decide)
  obtain ⟨m3, n3, c3, f3, g3, S3, o3, v3⟩ := lm_u307 (d := d) (x := x) (u := u) (y := Int32.ofNat j) (f := 0) (st := 15) (p := 199) (w := 2144) (b := j * lm_sn W.2.1) hC hs S2 (by decide) rfl (by decide) (by decide) (by decide) (by omega) (by decide) v2
  refine ⟨m3, n3, ⟨S3, fun r r1 r2 r3 => by rw [f3 r r1 r2 r3, f2 r r1 r2 r3, i2 r r1 r2 r3], i3.tr (g2.tr g3), fun t ht => ?_⟩, fun R KK => ?_⟩
  · rw [Nat.succ_mul] at ht
    by_cases c : t < j * lm_sn W.2.1
    · rw [o3 t (by omega), o2 t (by omega)]
      exact i4 t c
    · obtain ⟨i, rfl⟩ : ∃ i, t = j * lm_sn W.2.1 + i := ⟨t - j * lm_sn W.2.1, by omega⟩
      have hi : i < lm_sn W.2.1 := by omega
      rw [v3 i hi]
      unfold lm_hen
      rw [(lm_dmn hi).1, (lm_dmn hi).2]
      rfl
  · clear i4 v2 v3 o2 o3
    refine lm_e271_3 ?_
    unfold lm_q271_3
    rw [lm_K0, lm_K1, lm_K5, show Int32.ofInt 15 = Int32.ofNat 15 from rfl, lm_oo]
    repeat (first
    | ((with_reducible apply lm_sI); exact rfl)
    | ((with_reducible apply lm_sR); exact rfl)
    | ((with_reducible apply lm_sS); exact rfl; exact rfl)
    | ((with_reducible apply lm_sL); exact rfl)
    | ((with_reducible apply lm_sP); exact rfl; exact rfl)
    | ((with_reducible apply lm_sPL); exact rfl; exact rfl)
    | ((with_reducible apply lm_sAA); exact rfl; exact rfl)
    | ((with_reducible apply lm_sA); (first | exact rfl | assumption); omega)
    | ((with_reducible apply lm_sJ); (first | exact rfl | assumption); omega)
    | ((with_reducible apply lm_sB); (first | exact rfl | assumption); omega)
    | ((with_reducible apply lm_wA); (first | exact rfl | assumption); omega)
    | ((with_reducible apply lm_wJ); (first | exact rfl | assumption); omega)
    | ((with_reducible apply lm_wB); (first | exact rfl | assumption); omega)
    | ((with_reducible apply lm_sAl); (first | exact rfl | assumption); omega)
    | ((with_reducible apply lm_iW); decide))
    simp only [Nat.reduceDiv, Nat.reduceMod]
    rw [i1.1.1.2.2.2.2.2.2.1]
    refine lm_geF (by omega) (by omega) (by omega) ?_
    repeat (first
    | ((with_reducible apply lm_sI); exact rfl)
    | ((with_reducible apply lm_sR); exact rfl)
    | ((with_reducible apply lm_sS); exact rfl; exact rfl)
    | ((with_reducible apply lm_sL); exact rfl)
    | ((with_reducible apply lm_sP); exact rfl; exact rfl)
    | ((with_reducible apply lm_sPL); exact rfl; exact rfl)
    | ((with_reducible apply lm_sAA); exact rfl; exact rfl)
    | ((with_reducible apply lm_sA); (first | exact rfl | assumption); omega)
    | ((with_reducible apply lm_sJ); (first | exact rfl | assumption); omega)
    | ((with_reducible apply lm_sB); (first | exact rfl | assumption); omega)
    | ((with_reducible apply lm_wA); (first | exact rfl | assumption); omega)
    | ((with_reducible apply lm_wJ); (first | exact rfl | assumption); omega)
    | ((with_reducible apply lm_wB); (first | exact rfl | assumption); omega)
    | ((with_reducible apply lm_sAl); (first | exact rfl | assumption); omega)
    | ((with_reducible apply lm_iW); decide))
    refine lm_cV c1 ?_
    repeat (first
    | ((with_reducible apply lm_sI); exact rfl)
    | ((with_reducible apply lm_sR); exact rfl)
    | ((with_reducible apply lm_sS); exact rfl; exact rfl)
    | ((with_reducible apply lm_sL); exact rfl)
    | ((with_reducible apply lm_sP); exact rfl; exact rfl)
    | ((with_reducible apply lm_sPL); exact rfl; exact rfl)
    | ((with_reducible apply lm_sAA); exact rfl; exact rfl)
    | ((with_reducible apply lm_sA); (first | exact rfl | assumption); omega)
    | ((with_reducible apply lm_sJ); (first | exact rfl | assumption); omega)
    | ((with_reducible apply lm_sB); (first | exact rfl | assumption); omega)
    | ((with_reducible apply lm_wA); (first | exact rfl | assumption); omega)
    | ((with_reducible apply lm_wJ); (first | exact rfl | assumption); omega)
    | ((with_reducible apply lm_wB); (first | exact rfl | assumption); omega)
    | ((with_reducible apply lm_sAl); (first | exact rfl | assumption); omega)
    | ((with_reducible apply lm_iW); decide))
    simp only [Nat.reduceDiv, Nat.reduceMod]
    rw [e1, i1.1.1.2.1, lm_om]
    refine lm_cV c2 ?_
    repeat (first
    | ((with_reducible apply lm_sI); exact rfl)
    | ((with_reducible apply lm_sR); exact rfl)
    | ((with_reducible apply lm_sS); exact rfl; exact rfl)
    | ((with_reducible apply lm_sL); exact rfl)
    | ((with_reducible apply lm_sP); exact rfl; exact rfl)
    | ((with_reducible apply lm_sPL); exact rfl; exact rfl)
    | ((with_reducible apply lm_sAA); exact rfl; exact rfl)
    | ((with_reducible apply lm_sA); (first | exact rfl | assumption); omega)
    | ((with_reducible apply lm_sJ); (first | exact rfl | assumption); omega)
    | ((with_reducible apply lm_sB); (first | exact rfl | assumption); omega)
    | ((with_reducible apply lm_wA); (first | exact rfl | assumption); omega)
    | ((with_reducible apply lm_wJ); (first | exact rfl | assumption); omega)
    | ((with_reducible apply lm_wB); (first | exact rfl | assumption); omega)
    | ((with_reducible apply lm_sAl); (first | exact rfl | assumption); omega)
    | ((with_reducible apply lm_iW); decide))
    simp only [Nat.reduceDiv, Nat.reduceMod]
    rw [S2.1.1.2.1, lm_om]
    refine lm_cV c3 ?_
    exact KK
theorem lm_u271 (hC : lm_Cok xs W.1) (hs : W.2.1 ≤ 11) (h : lm_SX W m n) (hp : lm_ar p = some (1, w)) (gp : 22 < p) (gp5 : p ≠ 195) (gp6 : p ≠ 196) (gp9 : p ≠ 199) (hbw : b + lm_sn W.2.1 ≤ w) (hw : w ≤ 70000) : ∃ m' n', lm_cal (lm_sc xs) (d + 6) 271 [.ref 194, .int u, .ref p, .int (Int32.ofNat b)] (lm_w m n x) = some (.ok none, lm_w m' n' x) ∧ (∀ r, (r < 5 ∨ 22 < r) → r ≠ 195 → r ≠ 199 → r ≠ p → m' r = m r) ∧ lm_fN m n m' n' ∧ lm_SX W m' n' ∧ (∀ i, i < b ∨ b + lm_sn W.2.1 ≤ i → m' p i = m p i) ∧ ∀ i, i < lm_sn W.2.1 → lm_b8 (m' p (b + i)) = lm_hlf W u i := by
  have hpar := lm_spar _ hs
  have hcw := lm_cwn hs (j := 0) (by unfold lm_cw; omega)
  obtain ⟨m1, n1, ⟨i1, i2, i3, i4⟩, k1⟩ := lm_lp (fr := fun j => (3, [(0, .ref 194), (1, .int u), (2, .ref p), (3, .int (Int32.ofNat b)), (4, .int (Int32.ofNat j))], [])) (lm_l271 (u := u) (d := d) (x := x) (p := p) (b := b) (m0 := m) (n0 := n) hC hs) (lm_cw W.2.1) 0 (Nat.zero_add _) m n ⟨h, fun _ _ _ _ => rfl, lm_fN.rf, fun t ht => absurd ht (by rw [Nat.zero_mul]; omega)⟩
  obtain ⟨m2, m3, n3, c2, c3, e2, f3, g3, S3, o3, v3⟩ := lm_nh (d := d) (x := x) (q := 199) (v := 2144) (a := 0) (l := lm_cw W.2.1 * lm_sn W.2.1) (X := lm_hen W u) (p := p) (w := w) (b := b) (ty := Int32.ofNat 1) (u := u) (y := Int32.ofNat 0) (z := Int32.ofNat 0) hC hs i1 rfl (by decide) (by decide) (by omega) (by decide) (fun t ht => by rw [Nat.zero_add]; exact i4 t ht) hp gp gp5 gp6 hbw hw
  refine ⟨m3, n3, ?_, fun r r1 r2 r3 r4 => by rw [f3 r r1 r2 r4, i2 r r1 r2 r3], i3.tr g3, S3, fun i hi => by rw [o3 i hi, i2 p (by omega) gp5 gp9], fun i hi => by rw [v3 i hi]; rfl⟩
  clear i4 v3 o3
  refine lm_cal_of (Y := lm_m271) rfl rfl (lm_e271_0 ?_)
  unfold lm_q271_0
  rw [lm_K0]
  refine k1 _ ?_
  refine lm_e271_3 ?_
  unfold lm_q271_3
  rw [lm_K0, lm_K1]
  repeat (first
    | ((with_reducible apply lm_sI); exact rfl)
    | ((with_reducible apply lm_sR); exact rfl)
    | ((with_reducible apply lm_sS); exact rfl; exact rfl)
    | ((with_reducible apply lm_sL); exact rfl)
    | ((with_reducible apply lm_sP); exact rfl; exact rfl)
    | ((with_reducible apply lm_sPL); exact rfl; exact rfl)
    | ((with_reducible apply lm_sAA); exact rfl; exact rfl)
    | ((with_reducible apply lm_sA); (first | exact rfl | assumption); omega)
    | ((with_reducible apply lm_sJ); (first | exact rfl | assumption); omega)
    | ((with_reducible apply lm_sB); (first | exact rfl | assumption); omega)
    | ((with_reducible apply lm_wA); (first | exact rfl | assumption); omega)
    | ((with_reducible apply lm_wJ); (first | exact rfl | assumption); omega)
    | ((with_reducible apply lm_wB); (first | exact rfl | assumption); omega)
    | ((with_reducible apply lm_sAl); (first | exact rfl | assumption); omega)
    | ((with_reducible apply lm_iW); decide))
  simp only [Nat.reduceDiv, Nat.reduceMod]
  rw [i1.1.1.2.2.2.2.2.2.1]
  refine lm_geT (by omega) (by omega) (Nat.le_refl _) ?_
  repeat (first
    | ((with_reducible apply lm_sI); exact rfl)
    | ((with_reducible apply lm_sR); exact rfl)
    | ((with_reducible apply lm_sS); exact rfl; exact rfl)
    | ((with_reducible apply lm_sL); exact rfl)
    | ((with_reducible apply lm_sP); exact rfl; exact rfl)
    | ((with_reducible apply lm_sPL); exact rfl; exact rfl)
    | ((with_reducible apply lm_sAA); exact rfl; exact rfl)
    | ((with_reducible apply lm_sA); (first | exact rfl | assumption); omega)
    | ((with_reducible apply lm_sJ); (first | exact rfl | assumption); omega)
    | ((with_reducible apply lm_sB); (first | exact rfl | assumption); omega)
    | ((with_reducible apply lm_wA); (first | exact rfl | assumption); omega)
    | ((with_reducible apply lm_wJ); (first | exact rfl | assumption); omega)
    | ((with_reducible apply lm_wB); (first | exact rfl | assumption); omega)
    | ((with_reducible apply lm_sAl); (first | exact rfl | assumption); omega)
    | ((with_reducible apply lm_iW); decide))
  refine lm_cV c2 ?_
  repeat (first
    | ((with_reducible apply lm_sI); exact rfl)
    | ((with_reducible apply lm_sR); exact rfl)
    | ((with_reducible apply lm_sS); exact rfl; exact rfl)
    | ((with_reducible apply lm_sL); exact rfl)
    | ((with_reducible apply lm_sP); exact rfl; exact rfl)
    | ((with_reducible apply lm_sPL); exact rfl; exact rfl)
    | ((with_reducible apply lm_sAA); exact rfl; exact rfl)
    | ((with_reducible apply lm_sA); (first | exact rfl | assumption); omega)
    | ((with_reducible apply lm_sJ); (first | exact rfl | assumption); omega)
    | ((with_reducible apply lm_sB); (first | exact rfl | assumption); omega)
    | ((with_reducible apply lm_wA); (first | exact rfl | assumption); omega)
    | ((with_reducible apply lm_wJ); (first | exact rfl | assumption); omega)
    | ((with_reducible apply lm_wB); (first | exact rfl | assumption); omega)
    | ((with_reducible apply lm_sAl); (first | exact rfl | assumption); omega)
    | ((with_reducible apply lm_iW); decide))
  simp only [Nat.reduceDiv, Nat.reduceMod]
  rw [e2, i1.1.1.2.2.2.2.2.2.1, i1.1.1.2.1, lm_om]
  exact lm_cV c3 rfl
theorem lm_u272 (hC : lm_Cok xs W.1) (hs : W.2.1 ≤ 11) (h : lm_SX W m n) (hp : lm_ar p = some (1, w)) (gp : 22 < p) (gp5 : p ≠ 195) (gp6 : p ≠ 196) (hbw : b + lm_sn W.2.1 ≤ w) (hw : w ≤ 70000) : ∃ m' n', lm_cal (lm_sc xs) (d + 6) 272 [.ref 194, .int u, .int z, .ref p, .int (Int32.ofNat b)] (lm_w m n x) = some (.ok none, lm_w m' n' x) ∧ (∀ r, (r < 5 ∨ 22 < r) → r ≠ 195 → r ≠ p → m' r = m r) ∧ lm_fN m n m' n' ∧ lm_SX W m' n' ∧ (∀ i, i < b ∨ b + lm_sn W.2.1 ≤ i → m' p i = m p i) ∧ ∀ i, i < lm_sn W.2.1 → lm_b8 (m' p (b + i)) = lm_hff W u z i := by
  have hpar := lm_spar _ hs
  obtain ⟨m1, m2, n2, c1, c2, e1, f2, g2, S2, o2, v2⟩ := lm_nh (d := d) (x := x) (q := 196) (v := 32) (a := 0) (l := lm_sn W.2.1) (X := W.2.2.2.1) (p := p) (w := w) (b := b) (ty := Int32.ofNat 6) (u := u) (y := Int32.ofNat 0) (z := z) hC hs h rfl (by decide) (by decide) (by omega) (by decide) (fun t ht => by rw [Nat.zero_add]; exact h.2.2 t ht) hp gp gp5 gp6 hbw hw
  obtain ⟨m3, m4, n4, c3, c4, e3, f4, g4, S4, o4, v4⟩ := lm_nh (d := d) (x := x) (q := p) (v := w) (a := b) (l := lm_sn W.2.1) (p := p) (w := w) (b := b) (ty := Int32.ofNat 3) (u := u) (y := Int32.ofNat 0) (z := z) hC hs S2 hp gp gp5 hbw hw v2 hp gp gp5 gp6 hbw hw
  refine ⟨m4, n4, ?_, fun r r1 r2 r3 => by rw [f4 r r1 r2 r3, f2 r r1 r2 r3], g2.tr g4, S4, fun i hi => by rw [o4 i hi, o2 i hi], fun i hi => by rw [v4 i hi]; rfl⟩
  clear v2 v4 o2 o4
  refine lm_cal_of (Y := lm_m272) rfl rfl (lm_e272_0 ?_)
  unfold lm_q272_0
  rw [lm_K0, lm_K3, lm_K6]
  repeat (first
    | ((with_reducible apply lm_sI); exact rfl)
    | ((with_reducible apply lm_sR); exact rfl)
    | ((with_reducible apply lm_sS); exact rfl; exact rfl)
    | ((with_reducible apply lm_sL); exact rfl)
    | ((with_reducible apply lm_sP); exact rfl; exact rfl)
    | ((with_reducible apply lm_sPL); exact rfl; exact rfl)
    | ((with_reducible apply lm_sAA); exact rfl; exact rfl)
    | ((with_reducible apply lm_sA); (first | exact rfl | assumption); omega)
    | ((with_reducible apply lm_sJ); (first | exact rfl | assumption); omega)
    | ((with_reducible apply lm_sB); (first | exact rfl | assumption); omega)
    | ((with_reducible apply lm_wA); (first | exact rfl | assumption); omega)
    | ((with_reducible apply lm_wJ); (first | exact rfl | assumption); omega)
    | ((with_reducible apply lm_wB); (first | exact rfl | assumption); omega)
    | ((with_reducible apply lm_sAl); (first | exact rfl | assumption); omega)
    | ((with_reducible apply lm_iW); decide))
  refine lm_cV c1 ?_
  repeat (first
    | ((with_reducible apply lm_sI); exact rfl)
    | ((with_reducible apply lm_sR); exact rfl)
    | ((with_reducible apply lm_sS); exact rfl; exact rfl)
    | ((with_reducible apply lm_sL); exact rfl)
    | ((with_reducible apply lm_sP); exact rfl; exact rfl)
    | ((with_reducible apply lm_sPL); exact rfl; exact rfl)
    | ((with_reducible apply lm_sAA); exact rfl; exact rfl)
    | ((with_reducible apply lm_sA); (first | exact rfl | assumption); omega)
    | ((with_reducible apply lm_sJ); (first | exact rfl | assumption); omega)
    | ((with_reducible apply lm_sB); (first | exact rfl | assumption); omega)
    | ((with_reducible apply lm_wA); (first | exact rfl | assumption); omega)
    | ((with_reducible apply lm_wJ); (first | exact rfl | assumption); omega)
    | ((with_reducible apply lm_wB); (first | exact rfl | assumption); omega)
    | ((with_reducible apply lm_sAl); (first | exact rfl | assumption); omega)
    | ((with_reducible apply lm_iW); decide))
  simp only [Nat.reduceDiv, Nat.reduceMod]
  rw [e1, h.1.1.2.1]
  refine lm_cV c2 ?_
  repeat (first
    | ((with_reducible apply lm_sI); exact rfl)
    | ((with_reducible apply lm_sR); exact rfl)
    | ((with_reducible apply lm_sS); exact rfl; exact rfl)
    | ((with_reducible apply lm_sL); exact rfl)
    | ((with_reducible apply lm_sP); exact rfl; exact rfl)
    | ((with_reducible apply lm_sPL); exact rfl; exact rfl)
    | ((with_reducible apply lm_sAA); exact rfl; exact rfl)
    | ((with_reducible apply lm_sA); (first | exact rfl | assumption); omega)
    | ((with_reducible apply lm_sJ); (first | exact rfl | assumption); omega)
    | ((with_reducible apply lm_sB); (first | exact rfl | assumption); omega)
    | ((with_reducible apply lm_wA); (first | exact rfl | assumption); omega)
    | ((with_reducible apply lm_wJ); (first | exact rfl | assumption); omega)
    | ((with_reducible apply lm_wB); (first | exact rfl | assumption); omega)
    | ((with_reducible apply lm_sAl); (first | exact rfl | assumption); omega)
    | ((with_reducible apply lm_iW); decide))
  refine lm_cV c3 ?_
  repeat (first
    | ((with_reducible apply lm_sI); exact rfl)
    | ((with_reducible apply lm_sR); exact rfl)
    | ((with_reducible apply lm_sS); exact rfl; exact rfl)
    | ((with_reducible apply lm_sL); exact rfl)
    | ((with_reducible apply lm_sP); exact rfl; exact rfl)
    | ((with_reducible apply lm_sPL); exact rfl; exact rfl)
    | ((with_reducible apply lm_sAA); exact rfl; exact rfl)
    | ((with_reducible apply lm_sA); (first | exact rfl | assumption); omega)
    | ((with_reducible apply lm_sJ); (first | exact rfl | assumption); omega)
    | ((with_reducible apply lm_sB); (first | exact rfl | assumption); omega)
    | ((with_reducible apply lm_wA); (first | exact rfl | assumption); omega)
    | ((with_reducible apply lm_wJ); (first | exact rfl | assumption); omega)
    | ((with_reducible apply lm_wB); (first | exact rfl | assumption); omega)
    | ((with_reducible apply lm_sAl); (first | exact rfl | assumption); omega)
    | ((with_reducible apply lm_iW); decide))
  simp only [Nat.reduceDiv, Nat.reduceMod]
  rw [e3, S2.1.1.2.1]
  exact lm_cV c4 rfl
end LMSU
/-! nodes -/
def lm_cat (n : Nat) (A B : Nat → Int32) (t : Nat) : Int32 := if t < n then A t else B (t - n)
def lm_nty (fo : Bool) : Int32 := Int32.ofNat (cond fo 3 2)
def lm_nlf (W : lm_WT) (fo : Bool) (u : Int32) (i : Nat) : Nat → Int32 := cond fo (lm_hff W u (Int32.ofNat i)) (lm_hlf W (Int32.ofNat i))
def lm_hnd (W : lm_WT) (fo : Bool) (u : Int32) : Nat → Nat → Nat → Int32
  | 0 => lm_nlf W fo u
  | z + 1 => fun i => lm_hF W (lm_nty fo) u (Int32.ofNat (z + 1)) (Int32.ofNat i) (lm_cat (lm_sn W.2.1) (lm_hnd W fo u z (2 * i)) (lm_hnd W fo u z (2 * i + 1))) (2 * lm_sn W.2.1)
theorem lm_kx {K x : Nat} (hK : 0 < K) : (K * (x + 1) - 1) / K = x := by
  rw [show K * (x + 1) - 1 = K * x + (K - 1) by rw [Nat.mul_add, Nat.mul_one]; omega, Nat.mul_add_div hK, Nat.div_eq_of_lt (by omega), Nat.add_zero]
section LMSV
variable {xs : List Int32} {d : Nat} {W : lm_WT} {fo : Bool} {m m' : lm_MI} {n n' : lm_ML} {x : lm_H × Nat × Nat} {u : Int32} {z i p b w : Nat}
def lm_f6 (fo : Bool) (u : Int32) (z i p b T c : Nat) : lm_F := (6, [(0, .ref 194), (1, .int (lm_nty fo)), (2, .int u), (3, .int (Int32.ofNat z)), (4, .int (Int32.ofNat i)), (5, .ref p), (6, .int (Int32.ofNat b)), (7, .int (Int32.ofNat T)), (8, .int (Int32.ofNat c))], [])
def lm_f69 (fo : Bool) (u : Int32) (z i p b T c I l : Nat) : lm_F := (69, [(0, .ref 194), (1, .int (lm_nty fo)), (2, .int u), (3, .int (Int32.ofNat z)), (4, .int (Int32.ofNat i)), (5, .ref p), (6, .int (Int32.ofNat b)), (7, .int (Int32.ofNat T)), (8, .int (Int32.ofNat c)), (9, .int (Int32.ofNat I)), (10, .int (Int32.ofNat l))], [])
/-- one leaf is put on the stack -/
theorem lm_l194a {T e : Nat} (hC : lm_Cok xs W.1) (hs : W.2.1 ≤ 11) (h : lm_SX W m n) (hz : z ≤ 14) (hT : T ≤ 14) (he : e < 2 ^ z) (hI : (i + 1) * 2 ^ z ≤ 2000000) : ∃ m' n', lm_SX W m' n' ∧ (∀ r, (r < 5 ∨ 22 < r) → r ≠ 195 → r ≠ 199 → r ≠ 200 → m' r = m r) ∧ lm_fN m n m' n' ∧ (∀ t, t < T * lm_sn W.2.1 → m' 200 t = m 200 t) ∧ (∀ t, t < lm_sn W.2.1 → lm_b8 (m' 200 (T * lm_sn W.2.1 + t)) = lm_nlf W fo u (i * 2 ^ z + e) t) ∧ ∀ R, lm_rn (lm_sc xs) (d + 6) lm_m194.2.2.2.2.1 (lm_reg lm_m194.2.2.2.2.2) (lm_f69 fo u z i p b T e (i * 2 ^ z + e) 1) (lm_w m' n' x) = some R → lm_rn (lm_sc xs) (d + 6) lm_m194.2.2.2.2.1 (lm_reg lm_m194.2.2.2.2.2) (lm_f6 fo u z i p b T e) (lm_w m n x) = some R := by
  have hpar := lm_spar _ hs
  have hTn : T * lm_sn W.2.1 + lm_sn W.2.1 ≤ 480 := by
    rw [← Nat.succ_mul]
    exact Nat.le_trans (Nat.mul_le_mul (show T + 1 ≤ 15 by omega) hpar.1) (by decide)
  have hZ : 2 ^ z ≤ 16384 := Nat.pow_le_pow_right (n := 2) (by decide) hz
  rw [Nat.succ_mul] at hI
  have hi : i ≤ i * 2 ^ z := Nat.le_mul_of_pos_right _ (Nat.two_pow_pos z)
  have key : ∃ m' n', lm_SX W m' n' ∧ (∀ r, (r < 5 ∨ 22 < r) → r ≠ 195 → r ≠ 199 → r ≠ 200 → m' r = m r) ∧ lm_fN m n m' n' ∧ (∀ t, t < T * lm_sn W.2.1 → m' 200 t = m 200 t) ∧ (∀ t, t < lm_sn W.2.1 → lm_b8 (m' 200 (T * lm_sn W.2.1 + t)) = lm_nlf W fo u (i * 2 ^ z + e) t) ∧ ((fo = true → lm_cal (lm_sc xs) (d + 6) 272 [.ref 194, .int u, .int (Int32.ofNat (i * 2 ^ z + e)), .ref 200, .int (Int32.ofNat (T * lm_sn W.2.1))] (lm_w m n x) = some (.ok none, lm_w m' n' x)) ∧ (fo = false → lm_cal (lm_sc xs) (d + 6) 271 [.ref 194, .int (Int32.ofNat (i * 2 ^ z + e)), .ref 200, .int (Int32.ofNat (T * lm_sn W.2.1))] (lm_w m n x) = some (.ok none, lm_w m' n' x))) := by
    cases fo with
    | true =>
      obtain ⟨m1, n1, c1, f1, g1, S1, o1, v1⟩ := lm_u272 (d := d) (x := x) (u := u) (z := Int32.ofNat (i * 2 ^ z + e)) (p := 200) (w := 480) (b := T * lm_sn W.2.1) hC hs h rfl (by decide) (by decide) (by decide) hTn (by decide)
      exact ⟨m1, n1, S1, fun r r1 r2 _ r4 => f1 r r1 r2 r4, g1, fun t ht => o1 t (Or.inl ht), v1, fun _ => c1, fun g => absurd g (by decide)⟩
    | false =>
      obtain ⟨m1, n1, c1, f1, g1, S1, o1, v1⟩ := lm_u271 (d := d) (x := x) (u := Int32.ofNat (i * 2 ^ z + e)) (p := 200) (w := 480) (b := T * lm_sn W.2.1) hC hs h rfl (by decide) (by decide) (by decide) (by decide) hTn (by decide)
      exact ⟨m1, n1, S1, f1, g1, fun t ht => o1 t (Or.inl ht), v1, fun g => absurd g (by decide), fun _ => c1⟩
  obtain ⟨m1, n1, S1, f1, g1, o1, v1, c1, c2⟩ := key
  refine ⟨m1, n1, S1, f1, g1, o1, v1, fun R KK => ?_⟩
  clear v1 o1
  have K66 : lm_rn (lm_sc xs) (d + 6) lm_m194.2.2.2.2.1 (lm_reg lm_m194.2.2.2.2.2) (66, [(0, .ref 194), (1, .int (lm_nty fo)), (2, .int u), (3, .int (Int32.ofNat z)), (4, .int (Int32.ofNat i)), (5, .ref p), (6, .int (Int32.ofNat b)), (7, .int (Int32.ofNat T)), (8, .int (Int32.ofNat e)), (9, .int (Int32.ofNat (i * 2 ^ z + e)))], []) (lm_w m1 n1 x) = some R := by
    refine lm_e194_66 ?_
    unfold lm_q194_66
    exact KK
  unfold lm_f6
  refine lm_e194_6 ?_
  unfold lm_q194_6
  rw [lm_K1, lm_K2, lm_slN (a := 1) (b := z) (by omega) (by omega) (by decide), lm_slN (a := i) (b := z) (by omega) (by omega) (by omega), lm_oo, Nat.one_mul]
  refine lm_geF (by omega) (by omega) (by omega) ?_
  unfold lm_nty at K66 ⊢
  cases fo with
  | true =>
    refine lm_neT (by decide) (by decide) (by decide) ?_
    repeat (first
    | ((with_reducible apply lm_sI); exact rfl)
    | ((with_reducible apply lm_sR); exact rfl)
    | ((with_reducible apply lm_sS); exact rfl; exact rfl)
    | ((with_reducible apply lm_sL); exact rfl)
    | ((with_reducible apply lm_sP); exact rfl; exact rfl)
    | ((with_reducible apply lm_sPL); exact rfl; exact rfl)
    | ((with_reducible apply lm_sAA); exact rfl; exact rfl)
    | ((with_reducible apply lm_sA); (first | exact rfl | assumption); omega)
    | ((with_reducible apply lm_sJ); (first | exact rfl | assumption); omega)
    | ((with_reducible apply lm_sB); (first | exact rfl | assumption); omega)
    | ((with_reducible apply lm_wA); (first | exact rfl | assumption); omega)
    | ((with_reducible apply lm_wJ); (first | exact rfl | assumption); omega)
    | ((with_reducible apply lm_wB); (first | exact rfl | assumption); omega)
    | ((with_reducible apply lm_sAl); (first | exact rfl | assumption); omega)
    | ((with_reducible apply lm_iW); decide))
    simp only [Nat.reduceDiv, Nat.reduceMod]
    rw [h.1.1.2.1, lm_om]
    refine lm_cV (c1 rfl) ?_
    exact K66
  | false =>
    refine lm_neF (by decide) (by decide) (by decide) ?_
    repeat (first
    | ((with_reducible apply lm_sI); exact rfl)
    | ((with_reducible apply lm_sR); exact rfl)
    | ((with_reducible apply lm_sS); exact rfl; exact rfl)
    | ((with_reducible apply lm_sL); exact rfl)
    | ((with_reducible apply lm_sP); exact rfl; exact rfl)
    | ((with_reducible apply lm_sPL); exact rfl; exact rfl)
    | ((with_reducible apply lm_sAA); exact rfl; exact rfl)
    | ((with_reducible apply lm_sA); (first | exact rfl | assumption); omega)
    | ((with_reducible apply lm_sJ); (first | exact rfl | assumption); omega)
    | ((with_reducible apply lm_sB); (first | exact rfl | assumption); omega)
    | ((with_reducible apply lm_wA); (first | exact rfl | assumption); omega)
    | ((with_reducible apply lm_wJ); (first | exact rfl | assumption); omega)
    | ((with_reducible apply lm_wB); (first | exact rfl | assumption); omega)
    | ((with_reducible apply lm_sAl); (first | exact rfl | assumption); omega)
    | ((with_reducible apply lm_iW); decide))
    simp only [Nat.reduceDiv, Nat.reduceMod]
    rw [h.1.1.2.1, lm_om]
    refine lm_cV (c2 rfl) ?_
    exact K66
/-- the inner loop ends -/
theorem lm_l194b {T c I l : Nat} {R : Except Nat lm_R × lm_S} (hz : z ≤ 14) (hc : c ≤ 2000000) (hl1 : 1 ≤ l) (hl : l ≤ 20) (hb : l ≤ z → c / 2 ^ (l - 1) % 2 = 0) (KK : lm_rn (lm_sc xs) (d + 6) lm_m194.2.2.2.2.1 (lm_reg lm_m194.2.2.2.2.2) (lm_f6 fo u z i p b (T + 1) (c + 1)) (lm_w m n x) = some R) : lm_rn (lm_sc xs) (d + 6) lm_m194.2.2.2.2.1 (lm_reg lm_m194.2.2.2.2.2) (lm_f69 fo u z i p b T c I l) (lm_w m n x) = some R := by
  have K142 : lm_rn (lm_sc xs) (d + 6) lm_m194.2.2.2.2.1 (lm_reg lm_m194.2.2.2.2.2) (142, [(0, .ref 194), (1, .int (lm_nty fo)), (2, .int u), (3, .int (Int32.ofNat z)), (4, .int (Int32.ofNat i)), (5, .ref p), (6, .int (Int32.ofNat b)), (7, .int (Int32.ofNat T)), (8, .int (Int32.ofNat c))], []) (lm_w m n x) = some R := by
    refine lm_e194_142 ?_
    unfold lm_q194_142
    rw [lm_K1, lm_oo, lm_oo]
    exact KK
  unfold lm_f69
  refine lm_e194_69 ?_
  unfold lm_q194_69
  by_cases cz : l ≤ z
  · refine lm_gtF (by omega) (by omega) (by omega) ?_
    rw [lm_K1, lm_osu hl1, lm_srN (by omega) (by omega)]
    have e1 : Int32.ofNat (c / 2 ^ (l - 1)) &&& Int32.ofNat 1 = Int32.ofNat (c / 2 ^ (l - 1) % 2) := lm_andm (k := 1) (Nat.lt_of_le_of_lt (Nat.div_le_self _ _) (by omega)) (by decide)
    rw [e1, hb cz]
    refine lm_neT (by decide) (by decide) (by decide) ?_
    exact K142
  · refine lm_gtT (by omega) (by omega) (by omega) ?_
    exact K142
/-- two roots become one -/
theorem lm_l194c {T c I J k : Nat} (hC : lm_Cok xs W.1) (hs : W.2.1 ≤ 11) (h : lm_SX W m n) (hz : z ≤ 14) (hT : T + (k + 1) ≤ z) (hc : c ≤ 2000000) (hcb : c / 2 ^ k % 2 = 1) (hI : I ≤ 2000000) (hJ : I / 2 ^ (k + 1) = J) (h1 : ∀ t, t < lm_sn W.2.1 → lm_b8 (m 200 (T * lm_sn W.2.1 + t)) = lm_hnd W fo u k (2 * J) t) (h2 : ∀ t, t < lm_sn W.2.1 → lm_b8 (m 200 ((T + 1) * lm_sn W.2.1 + t)) = lm_hnd W fo u k (2 * J + 1) t) : ∃ m' n', lm_SX W m' n' ∧ (∀ r, (r < 5 ∨ 22 < r) → r ≠ 195 → r ≠ 199 → r ≠ 200 → m' r = m r) ∧ lm_fN m n m' n' ∧ (∀ t, t < T * lm_sn W.2.1 → m' 200 t = m 200 t) ∧ (∀ t, t < lm_sn W.2.1 → lm_b8 (m' 200 (T * lm_sn W.2.1 + t)) = lm_hnd W fo u (k + 1) J t) ∧ ∀ R, lm_rn (lm_sc xs) (d + 6) lm_m194.2.2.2.2.1 (lm_reg lm_m194.2.2.2.2.2) (lm_f69 fo u z i p b T c I (k + 1 + 1)) (lm_w m' n' x) = some R → lm_rn (lm_sc xs) (d + 6) lm_m194.2.2.2.2.1 (lm_reg lm_m194.2.2.2.2.2) (lm_f69 fo u z i p b (T + 1) c I (k + 1)) (lm_w m n x) = some R := by
  have hpar := lm_spar _ hs
  rw [Nat.succ_mul] at h2
  have hTn : T * lm_sn W.2.1 + 2 * lm_sn W.2.1 ≤ 480 := by
    rw [← Nat.add_mul]
    exact Nat.le_trans (Nat.mul_le_mul (show T + 2 ≤ 15 by omega) hpar.1) (by decide)
  obtain ⟨m1, m2, n2, c1, c2, e1, f2, g2, S2, o2, v2⟩ := lm_nh (d := d + 1) (x := x) (q := 200) (v := 480) (a := T * lm_sn W.2.1) (l := 2 * lm_sn W.2.1) (X := lm_cat (lm_sn W.2.1) (lm_hnd W fo u k (2 * J)) (lm_hnd W fo u k (2 * J + 1))) (p := 200) (w := 480) (b := T * lm_sn W.2.1) (ty := lm_nty fo) (u := u) (y := Int32.ofNat (k + 1)) (z := Int32.ofNat J) hC hs h rfl (by decide) (by decide) (by omega) (by decide) (fun t ht => by
    unfold lm_cat
    by_cases c : t < lm_sn W.2.1
    · rw [if_pos c]; exact h1 t c
    · rw [if_neg c, ← h2 (t - lm_sn W.2.1) (by omega), show T * lm_sn W.2.1 + lm_sn W.2.1 + (t - lm_sn W.2.1) = T * lm_sn W.2.1 + t by omega]) rfl (by decide) (by decide) (by decide) (by omega) (by decide)
  refine ⟨m2, n2, S2, fun r r1 r2 _ r4 => f2 r r1 r2 r4, g2, fun t ht => o2 t (Or.inl ht), v2, fun R KK => ?_⟩
  clear v2 o2 h1 h2
  unfold lm_f69 at KK ⊢
  refine lm_e194_69 ?_
  unfold lm_q194_69
  refine lm_gtF (by omega) (by omega) (by omega) ?_
  rw [lm_K1, lm_osu (by omega), Nat.add_sub_cancel, lm_srN (b := k) (by omega) (by omega)]
  have e3 : Int32.ofNat (c / 2 ^ k) &&& Int32.ofNat 1 = Int32.ofNat (c / 2 ^ k % 2) := lm_andm (k := 1) (Nat.lt_of_le_of_lt (Nat.div_le_self _ _) (by omega)) (by decide)
  rw [e3, hcb, lm_dec1, lm_srN (b := k + 1) (by omega) (by omega), hJ, lm_K2, lm_oo]
  refine lm_neF (by decide) (by decide) (by decide) ?_
  repeat (first
    | ((with_reducible apply lm_sI); exact rfl)
    | ((with_reducible apply lm_sR); exact rfl)
    | ((with_reducible apply lm_sS); exact rfl; exact rfl)
    | ((with_reducible apply lm_sL); exact rfl)
    | ((with_reducible apply lm_sP); exact rfl; exact rfl)
    | ((with_reducible apply lm_sPL); exact rfl; exact rfl)
    | ((with_reducible apply lm_sAA); exact rfl; exact rfl)
    | ((with_reducible apply lm_sA); (first | exact rfl | assumption); omega)
    | ((with_reducible apply lm_sJ); (first | exact rfl | assumption); omega)
    | ((with_reducible apply lm_sB); (first | exact rfl | assumption); omega)
    | ((with_reducible apply lm_wA); (first | exact rfl | assumption); omega)
    | ((with_reducible apply lm_wJ); (first | exact rfl | assumption); omega)
    | ((with_reducible apply lm_wB); (first | exact rfl | assumption); omega)
    | ((with_reducible apply lm_sAl); (first | exact rfl | assumption); omega)
    | ((with_reducible apply lm_iW); decide))
  refine lm_cV c1 ?_
  repeat (first
    | ((with_reducible apply lm_sI); exact rfl)
    | ((with_reducible apply lm_sR); exact rfl)
    | ((with_reducible apply lm_sS); exact rfl; exact rfl)
    | ((with_reducible apply lm_sL); exact rfl)
    | ((with_reducible apply lm_sP); exact rfl; exact rfl)
    | ((with_reducible apply lm_sPL); exact rfl; exact rfl)
    | ((with_reducible apply lm_sAA); exact rfl; exact rfl)
    | ((with_reducible apply lm_sA); (first | exact rfl | assumption); omega)
    | ((with_reducible apply lm_sJ); (first | exact rfl | assumption); omega)
    | ((with_reducible apply lm_sB); (first | exact rfl | assumption); omega)
    | ((with_reducible apply lm_wA); (first | exact rfl | assumption); omega)
    | ((with_reducible apply lm_wJ); (first | exact rfl | assumption); omega)
    | ((with_reducible apply lm_wB); (first | exact rfl | assumption); omega)
    | ((with_reducible apply lm_sAl); (first | exact rfl | assumption); omega)
    | ((with_reducible apply lm_iW); decide))
  simp only [Nat.reduceDiv, Nat.reduceMod]
  rw [e1, h.1.1.2.1, lm_om, lm_om]
  refine lm_cV c2 ?_
  exact KK
/-- a block of leaves becomes its root -/
theorem lm_l194 (hC : lm_Cok xs W.1) (hs : W.2.1 ≤ 11) (hz : z ≤ 14) (hI : (i + 1) * 2 ^ z ≤ 2000000) : ∀ k T e J m n, T + k ≤ z → i * 2 ^ z + 2 ^ k * e = 2 ^ k * J → 2 ^ k * (e + 1) ≤ 2 ^ z → lm_SX W m n → ∃ m' n', lm_SX W m' n' ∧ (∀ r, (r < 5 ∨ 22 < r) → r ≠ 195 → r ≠ 199 → r ≠ 200 → m' r = m r) ∧ lm_fN m n m' n' ∧ (∀ t, t < T * lm_sn W.2.1 → m' 200 t = m 200 t) ∧ (∀ t, t < lm_sn W.2.1 → lm_b8 (m' 200 (T * lm_sn W.2.1 + t)) = lm_hnd W fo u k J t) ∧ ∀ R, lm_rn (lm_sc xs) (d + 6) lm_m194.2.2.2.2.1 (lm_reg lm_m194.2.2.2.2.2) (lm_f69 fo u z i p b T (2 ^ k * (e + 1) - 1) (2 ^ k * (J + 1) - 1) (k + 1)) (lm_w m' n' x) = some R → lm_rn (lm_sc xs) (d + 6) lm_m194.2.2.2.2.1 (lm_reg lm_m194.2.2.2.2.2) (lm_f6 fo u z i p b T (2 ^ k * e)) (lm_w m n x) = some R := by
  intro k
  induction k with
  | zero =>
    intro T e J m n hT hJ he h
    rw [Nat.pow_zero, Nat.one_mul, Nat.one_mul] at hJ
    rw [Nat.pow_zero, Nat.one_mul] at he
    obtain ⟨m1, n1, S1, f1, g1, o1, v1, k1⟩ := lm_l194a (d := d) (x := x) (fo := fo) (u := u) (p := p) (b := b) (T := T) (e := e) hC hs h hz (by omega) (by omega) hI
    rw [hJ] at v1 k1
    refine ⟨m1, n1, S1, f1, g1, o1, v1, fun R KK => ?_⟩
    rw [Nat.pow_zero, Nat.one_mul, Nat.one_mul, Nat.add_sub_cancel, Nat.add_sub_cancel] at KK
    rw [Nat.pow_zero, Nat.one_mul]
    exact k1 R KK
  | succ k ih =>
    intro T e J m n hT hJ he h
    have hZ : 2 ^ z ≤ 16384 := Nat.pow_le_pow_right (n := 2) (by decide) hz
    have hK : 0 < 2 ^ k := Nat.two_pow_pos k
    have hI' := hI
    rw [Nat.succ_mul] at hI'
    have ep : 2 ^ (k + 1) = 2 ^ k * 2 := Nat.pow_succ ..
    rw [ep, Nat.mul_assoc, Nat.mul_assoc] at hJ
    rw [ep, Nat.mul_assoc] at he
    have he1 : 2 ^ k * (2 * (e + 1)) = 2 ^ k * (2 * e) + 2 ^ k + 2 ^ k := by rw [Nat.mul_add 2, Nat.mul_add, Nat.mul_one, Nat.mul_two]; omega
    have eJ1 : 2 ^ k * (2 * (J + 1)) = 2 ^ k * (2 * J) + 2 ^ k + 2 ^ k := by rw [Nat.mul_add 2, Nat.mul_add, Nat.mul_one, Nat.mul_two]; omega
    have p1 : ∀ y, 2 ^ k * (y + 1) = 2 ^ k * y + 2 ^ k := fun y => by rw [Nat.mul_add, Nat.mul_one]
    obtain ⟨m1, n1, S1, f1, g1, o1, v1, k1⟩ := ih T (2 * e) (2 * J) m n (by omega) hJ (by rw [p1]; omega) h
    obtain ⟨m2, n2, S2, f2, g2, o2, v2, k2⟩ := ih (T + 1) (2 * e + 1) (2 * J + 1) m1 n1 (by omega) (by rw [p1, p1]; omega) (by rw [p1, p1]; omega) S1
    have hc2 : 2 ^ k * (2 * e + 1 + 1) - 1 ≤ 2000000 := by rw [p1, p1]; omega
    have hI2 : 2 ^ k * (2 * J + 1 + 1) - 1 ≤ 2000000 := by rw [p1, p1]; omega
    obtain ⟨m3, n3, S3, f3, g3, o3, v3, k3⟩ := lm_l194c (d := d) (x := x) (fo := fo) (u := u) (z := z) (i := i) (p := p) (b := b) (T := T) (c := 2 ^ k * (2 * e + 1 + 1) - 1) (I := 2 ^ k * (2 * J + 1 + 1) - 1) (J := J) (k := k) hC hs S2 hz hT hc2 (by rw [lm_kx hK]; omega) hI2 (by rw [ep, show 2 * J + 1 + 1 = 2 * (J + 1) by omega, ← Nat.mul_assoc]; exact lm_kx (by omega)) (fun t ht => by rw [o2 _ (by rw [Nat.succ_mul]; omega)]; exact v1 t ht) v2
    refine ⟨m3, n3, S3, fun r r1 r2 r3 r4 => by rw [f3 r r1 r2 r3 r4, f2 r r1 r2 r3 r4, f1 r r1 r2 r3 r4], g1.tr (g2.tr g3), fun t ht => by rw [o3 t ht, o2 t (by rw [Nat.succ_mul]; omega), o1 t ht], v3, fun R KK => ?_⟩
    rw [ep, Nat.mul_assoc]
    refine k1 R ?_
    refine lm_l194b hz (by rw [p1]; omega) (by omega) (by omega) (fun _ => ?_) ?_
    · rw [Nat.add_sub_cancel, lm_kx hK]
      omega
    · rw [show 2 ^ k * (2 * e + 1) - 1 + 1 = 2 ^ k * (2 * e + 1) by rw [p1]; omega]
      refine k2 R ?_
      refine k3 R ?_
      rw [ep, Nat.mul_assoc, Nat.mul_assoc] at KK
      exact KK
theorem lm_u194 (hC : lm_Cok xs W.1) (hs : W.2.1 ≤ 11) (h : lm_SX W m n) (hz : z ≤ 14) (hI : (i + 1) * 2 ^ z ≤ 2000000) (hp : lm_ar p = some (1, w)) (gp : 22 < p) (gp5 : p ≠ 195) (gp6 : p ≠ 196) (gp9 : p ≠ 199) (gp0 : p ≠ 200) (hbw : b + lm_sn W.2.1 ≤ w) (hw : w ≤ 70000) : ∃ m' n', lm_cal (lm_sc xs) (d + 7) 194 [.ref 194, .int (lm_nty fo), .int u, .int (Int32.ofNat z), .int (Int32.ofNat i), .ref p, .int (Int32.ofNat b)] (lm_w m n x) = some (.ok none, lm_w m' n' x) ∧ (∀ r, (r < 5 ∨ 22 < r) → r ≠ 195 → r ≠ 199 → r ≠ 200 → r ≠ p → m' r = m r) ∧ lm_fN m n m' n' ∧ lm_SX W m' n' ∧ (∀ i, i < b ∨ b + lm_sn W.2.1 ≤ i → m' p i = m p i) ∧ ∀ t, t < lm_sn W.2.1 → lm_b8 (m' p (b + t)) = lm_hnd W fo u z i t := by
  have hpar := lm_spar _ hs
  have hZ : 2 ^ z ≤ 16384 := Nat.pow_le_pow_right (n := 2) (by decide) hz
  have hZ0 : 0 < 2 ^ z := Nat.two_pow_pos z
  have p194 := lm_ar_194 hp
  obtain ⟨m1, n1, S1, f1, g1, o1, v1, k1⟩ := lm_l194 (d := d) (x := x) (fo := fo) (u := u) (z := z) (i := i) (p := p) (b := b) hC hs hz hI z 0 0 i m n (by omega) (by rw [Nat.mul_zero, Nat.add_zero, Nat.mul_comm]) (by omega) h
  generalize eM : lm_cp m1 p b 200 0 (lm_sn W.2.1) = M
  have rM : ∀ r, r ≠ p → M r = m1 r := fun r hr => by rw [← eM, lm_cp_row hr]
  refine ⟨M, n1, ?_, fun r r1 r2 r3 r4 r5 => by rw [rM r r5, f1 r r1 r2 r3 r4], ⟨g1.1, by rw [rM 11 (by omega)]; exact g1.2.1, by rw [rM 17 (by omega)]; exact g1.2.2⟩, S1.keep (rM 194 (fun e => p194 e.symm)) (rM 195 (fun e => gp5 e.symm)) (rM 196 (fun e => gp6 e.symm)) (fun r _ _ => rM r (by omega)) (fun _ _ _ => rfl), fun i hi => ?_, fun t ht => ?_⟩
  · refine lm_cal_of (Y := lm_m194) rfl rfl (lm_e194_0 ?_)
    unfold lm_q194_0
    rw [lm_K0]
    rw [Nat.mul_zero] at k1
    refine k1 _ ?_
    refine lm_l194b hz (by omega) (by omega) (by omega) (fun g => absurd g (by omega)) ?_
    unfold lm_f6
    refine lm_e194_6 ?_
    unfold lm_q194_6
    rw [lm_K0, lm_K1, lm_slN (a := 1) (b := z) (by omega) (by omega) (by decide)]
    refine lm_geT (by omega) (by omega) (by omega) ?_
    repeat (first
    | ((with_reducible apply lm_sI); exact rfl)
    | ((with_reducible apply lm_sR); exact rfl)
    | ((with_reducible apply lm_sS); exact rfl; exact rfl)
    | ((with_reducible apply lm_sL); exact rfl)
    | ((with_reducible apply lm_sP); exact rfl; exact rfl)
    | ((with_reducible apply lm_sPL); exact rfl; exact rfl)
    | ((with_reducible apply lm_sAA); exact rfl; exact rfl)
    | ((with_reducible apply lm_sA); (first | exact rfl | assumption); omega)
    | ((with_reducible apply lm_sJ); (first | exact rfl | assumption); omega)
    | ((with_reducible apply lm_sB); (first | exact rfl | assumption); omega)
    | ((with_reducible apply lm_wA); (first | exact rfl | assumption); omega)
    | ((with_reducible apply lm_wJ); (first | exact rfl | assumption); omega)
    | ((with_reducible apply lm_wB); (first | exact rfl | assumption); omega)
    | ((with_reducible apply lm_sAl); (first | exact rfl | assumption); omega)
    | ((with_reducible apply lm_iW); decide))
    simp only [Nat.reduceDiv, Nat.reduceMod]
    rw [S1.1.1.2.1]
    refine lm_sCp (u := 1) rfl hp (Or.inr rfl) (by omega) hbw ?_
    rw [eM]
    exact rfl
  · rw [← eM, lm_rc, if_neg (by omega), f1 p (by omega) gp5 gp9 gp0]
  · rw [← eM, lm_rc, if_pos (by omega), ← v1 t ht]
    congr 2
    omega
end LMSV
