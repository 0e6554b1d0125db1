/-! ===== SLH of the reference: the forest signs; the chosen tree and leaf ===== -/
theorem lm_255b : ∀ i, i < 64 → (255#64).getLsbD i = decide (i < 8) := by decide
theorem lm_255c : ∀ i, i < 32 → (255#32).getLsbD i = decide (i < 8) := by decide
section LMUD
variable {sc : lm_H} {d s : Nat} {W : lm_WT} {m m' : lm_MI} {n n' : lm_ML} {x : lm_H × Nat × Nat} {D A : Nat → Int32} {u : Int32} {p w b j Lf : Nat}
def lm_I117 (W : lm_WT) (F : Nat → Int32) (p b : Nat) (m0 : lm_MI) (n0 : lm_ML) (K : Nat) (m : lm_MI) (n : lm_ML) : Prop := lm_RX W m n ∧ (∀ r, r ≠ 203 → r ≠ 227 → (r < 333 ∨ 350 < r) → r ≠ 353 → r ≠ p → m r = m0 r) ∧ lm_fG m0 n0 m n ∧ (∀ i, i < b → m p i = m0 p i) ∧ lm_PQw m p b F K
theorem lm_l117a (hs : W.2.1 ≤ 11) {m0 : lm_MI} {n0 : lm_ML} (hp : lm_ar p = some (1, w)) (gp : p ≠ 203 ∧ p ≠ 227 ∧ p ≠ 221 ∧ p < 333) (hbw : b + lm_fsz W.2.1 ≤ w) (hw : w ≤ 70000) (hj : j < ln_sT W.2.1) (hL : Lf < 589824) (eL : lm_cfl D (lm_sa W.2.1) j (lm_sa W.2.1) = Lf) : ∀ z, z < lm_sa W.2.1 → ∀ m n, lm_I117 W (lm_sf W u D) p b m0 n0 (j * (lm_sn W.2.1 * (1 + lm_sa W.2.1)) + (lm_sn W.2.1 + z * lm_sn W.2.1)) m n → ∃ m' n', lm_I117 W (lm_sf W u D) p b m0 n0 (j * (lm_sn W.2.1 * (1 + lm_sa W.2.1)) + (lm_sn W.2.1 + (z + 1) * lm_sn W.2.1)) m' n' ∧ ∀ R, lm_rn sc (d + 24) lm_m117.2.2.2.2.1 (lm_reg lm_m117.2.2.2.2.2) (51, [(0, .ref 203), (1, .int u), (2, .ref p), (4, .int (Int32.ofNat (b + j * (lm_sn W.2.1 * (1 + lm_sa W.2.1))))), (5, .int (Int32.ofNat j)), (6, .int (Int32.ofNat Lf)), (7, .int (Int32.ofNat (z + 1)))], []) (lm_w m' n' x) = some R → lm_rn sc (d + 24) lm_m117.2.2.2.2.1 (lm_reg lm_m117.2.2.2.2.2) (51, [(0, .ref 203), (1, .int u), (2, .ref p), (4, .int (Int32.ofNat (b + j * (lm_sn W.2.1 * (1 + lm_sa W.2.1))))), (5, .int (Int32.ofNat j)), (6, .int (Int32.ofNat Lf)), (7, .int (Int32.ofNat z))], []) (lm_w m n x) = some R := by
  intro z hz m n ⟨i1, i2, i3, i4, i5⟩
  have hpar := lm_spar _ hs
  have hfz := lm_fsz_b hs hj
  have hfn := lm_fsz_n (s := W.2.1)
  have hz2 : z * lm_sn W.2.1 + lm_sn W.2.1 ≤ lm_sa W.2.1 * lm_sn W.2.1 := by rw [← Nat.succ_mul]; exact Nat.mul_le_mul_right _ hz
  have hv := fun i (hi : i < lm_sn W.2.1) => lm_sf_1 (u := u) (D := D) (j := j) hz hi
  rw [eL] at hv
  generalize eO : j * (lm_sn W.2.1 * (1 + lm_sa W.2.1)) = O at hfz i5 hv ⊢
  have hx := lm_xor1_b (a := Lf) (z := z) (by omega) (by omega)
  have hd : Lf / 2 ^ z < 1048576 := Nat.lt_of_le_of_lt (Nat.div_le_self _ _) (by omega)
  have gk : lm_okp p := ⟨gp.1, gp.2.1, gp.2.2.1, by omega, by omega, by omega⟩
  obtain ⟨m1, n1, c1, f1, g1, S1, o1, v1⟩ := lm_u187 (sc := sc) (d := d + 16 - z) (x := x) (u := u) hs z (Lf / 2 ^ z ^^^ 1) p w (b + (O + (lm_sn W.2.1 + z * lm_sn W.2.1))) m n (by omega) hx.2 i1 hp gk (by omega) (by omega) (by omega) hw
  rw [show d + 16 - z + 8 + z = d + 24 by omega] at c1
  have ek : O + (lm_sn W.2.1 + (z + 1) * lm_sn W.2.1) = O + (lm_sn W.2.1 + z * lm_sn W.2.1) + lm_sn W.2.1 := by rw [Nat.succ_mul]; omega
  refine ⟨m1, n1, ⟨S1, fun r r1 r2 r3 r4 r5 => by rw [f1 r r1 r2 (by omega) r4 (by omega) r5, i2 r r1 r2 r3 r4 r5], i3.tr g1, fun i hi => by rw [o1 i (by omega), i4 i hi], ?_⟩, fun R KK => ?_⟩
  · rw [ek]
    exact i5.ap (fun i hi => o1 i (by omega)) (fun i hi => by rw [show b + (O + (lm_sn W.2.1 + z * lm_sn W.2.1)) + i = b + (O + (lm_sn W.2.1 + z * lm_sn W.2.1)) + i from rfl, v1 i hi, hv i hi])
  · have ea : b + O + (1 + z) * lm_sn W.2.1 = b + (O + (lm_sn W.2.1 + z * lm_sn W.2.1)) := by rw [Nat.add_mul, Nat.one_mul]; omega
    clear v1 o1 i4 i5 hv
    refine lm_e117_51 ?_
    unfold lm_q117_51
    rw [lm_K1, lm_oo, lm_oo, lm_oo, lm_srN (a := Lf) (b := z) (by omega) (by omega), lm_xor1 hd]
    repeat (first
    | ((with_reducible apply lm_sI); exact rfl)
    | ((with_reducible apply lm_sR); exact rfl)
    | ((with_reducible apply lm_sS); exact rfl; exact rfl)
    | ((with_reducible apply lm_sL); exact rfl)
    | ((with_reducible apply lm_sP); exact rfl; exact rfl)
    | ((with_reducible apply lm_sPL); exact rfl; exact rfl)
    | ((with_reducible apply lm_sAA); exact rfl; exact rfl)
    | ((with_reducible apply lm_sA); (first | exact rfl | assumption); omega)
    | ((with_reducible apply lm_sJ); (first | exact rfl | assumption); omega)
    | ((with_reducible apply lm_sB); (first | exact rfl | assumption); omega)
    | ((with_reducible apply lm_wA); (first | exact rfl | assumption); omega)
    | ((with_reducible apply lm_wJ); (first | exact rfl | assumption); omega)
    | ((with_reducible apply lm_wB); (first | exact rfl | assumption); omega)
    | ((with_reducible apply lm_sAl); (first | exact rfl | assumption); omega)
    | ((with_reducible apply lm_iW); decide))
    simp only [Nat.reduceDiv, Nat.reduceMod]
    rw [i1.2.1.2.2.2.2.1]
    refine lm_geF (by omega) (by omega) (by omega) ?_
    repeat (first
    | ((with_reducible apply lm_sI); exact rfl)
    | ((with_reducible apply lm_sR); exact rfl)
    | ((with_reducible apply lm_sS); exact rfl; exact rfl)
    | ((with_reducible apply lm_sL); exact rfl)
    | ((with_reducible apply lm_sP); exact rfl; exact rfl)
    | ((with_reducible apply lm_sPL); exact rfl; exact rfl)
    | ((with_reducible apply lm_sAA); exact rfl; exact rfl)
    | ((with_reducible apply lm_sA); (first | exact rfl | assumption); omega)
    | ((with_reducible apply lm_sJ); (first | exact rfl | assumption); omega)
    | ((with_reducible apply lm_sB); (first | exact rfl | assumption); omega)
    | ((with_reducible apply lm_wA); (first | exact rfl | assumption); omega)
    | ((with_reducible apply lm_wJ); (first | exact rfl | assumption); omega)
    | ((with_reducible apply lm_wB); (first | exact rfl | assumption); omega)
    | ((with_reducible apply lm_sAl); (first | exact rfl | assumption); omega)
    | ((with_reducible apply lm_iW); decide))
    simp only [Nat.reduceDiv, Nat.reduceMod]
    rw [i1.2.1.1, lm_om, lm_oo, ea]
    refine lm_cV c1 ?_
    exact KK
theorem lm_l117b (hs : W.2.1 ≤ 11) {m0 : lm_MI} {n0 : lm_ML} (hp : lm_ar p = some (1, w)) (gp : p ≠ 203 ∧ p ≠ 227 ∧ p ≠ 221 ∧ p < 333) (hbw : b + lm_fsz W.2.1 ≤ w) (hw : w ≤ 70000) (hD : ∀ t, t < lm_fb W.2.1 → lm_b8 (m0 356 t) = D t) : ∀ j, j < ln_sT W.2.1 → ∀ m n, lm_I117 W (lm_sf W u D) p b m0 n0 (j * (lm_sn W.2.1 * (1 + lm_sa W.2.1))) m n → ∃ m' n', lm_I117 W (lm_sf W u D) p b m0 n0 ((j + 1) * (lm_sn W.2.1 * (1 + lm_sa W.2.1))) m' n' ∧ ∀ R, lm_rn sc (d + 24) lm_m117.2.2.2.2.1 (lm_reg lm_m117.2.2.2.2.2) (6, [(0, .ref 203), (1, .int u), (2, .ref p), (4, .int (Int32.ofNat (b + (j + 1) * (lm_sn W.2.1 * (1 + lm_sa W.2.1))))), (5, .int (Int32.ofNat (j + 1)))], []) (lm_w m' n' x) = some R → lm_rn sc (d + 24) lm_m117.2.2.2.2.1 (lm_reg lm_m117.2.2.2.2.2) (6, [(0, .ref 203), (1, .int u), (2, .ref p), (4, .int (Int32.ofNat (b + j * (lm_sn W.2.1 * (1 + lm_sa W.2.1))))), (5, .int (Int32.ofNat j))], []) (lm_w m n x) = some R := by
  intro j hj m n ⟨i1, i2, i3, i4, i5⟩
  have hpar := lm_spar _ hs
  have hfz := lm_fsz_b hs hj
  have hfn := lm_fsz_n (s := W.2.1)
  have hL := lm_cfl_lt (D := D) (a := lm_sa W.2.1) (j := j) (c := lm_sa W.2.1) (by omega) (by omega)
  have c0 := lm_u185 (sc := sc) (d := d + 23) (m := m) (n := n) (x := x) (D := D) hs i1.2.1.2.2.2.2.1 hj (fun t ht => by rw [i2 356 (by decide) (by decide) (by decide) (by decide) (by omega)]; exact hD t ht)
  have ecf := lm_cfl_n (D := D) (j := j) (a := lm_sa W.2.1) (by omega) (by omega)
  have gk : lm_okp p := ⟨gp.1, gp.2.1, gp.2.2.1, by omega, by omega, by omega⟩
  obtain ⟨m1, m2, n2, c1, c2, e1, f2, g2, S2, o2, v2⟩ := lm_rps (sc := sc) (d := d + 17) (x := x) (p := p) (w := w) (b := b + j * (lm_sn W.2.1 * (1 + lm_sa W.2.1))) (ty := Int32.ofNat 6) (u := u) (y := Int32.ofNat 0) (z := Int32.ofNat (lm_cfl D (lm_sa W.2.1) j (lm_sa W.2.1))) hs i1 lm_s3c.2.2.2.2.2.2 hp gk (by omega) hw
  obtain ⟨m3, n3, I3, k3⟩ := lm_lp (fr := fun z => (51, [(0, .ref 203), (1, .int u), (2, .ref p), (4, .int (Int32.ofNat (b + j * (lm_sn W.2.1 * (1 + lm_sa W.2.1))))), (5, .int (Int32.ofNat j)), (6, .int (Int32.ofNat (lm_cfl D (lm_sa W.2.1) j (lm_sa W.2.1)))), (7, .int (Int32.ofNat z))], [])) (lm_l117a (sc := sc) (u := u) (D := D) (d := d) (x := x) (m0 := m0) (n0 := n0) hs hp gp hbw hw hj hL rfl) (lm_sa W.2.1) 0 (Nat.zero_add _) m2 n2 ⟨S2, fun r r1 r2 r3 r4 r5 => by rw [f2 r r1 r2 (by omega) r5, i2 r r1 r2 r3 r4 r5], i3.tr g2, fun i hi => by rw [o2 i (by omega), i4 i hi], by
    rw [Nat.zero_mul, Nat.add_zero]
    exact i5.ap (fun i hi => o2 i hi) (fun i hi => by rw [v2 i hi, lm_sf_0 hi]; rfl)⟩
  have ek : j * (lm_sn W.2.1 * (1 + lm_sa W.2.1)) + (lm_sn W.2.1 + lm_sa W.2.1 * lm_sn W.2.1) = (j + 1) * (lm_sn W.2.1 * (1 + lm_sa W.2.1)) := by rw [Nat.succ_mul, hfn]
  rw [ek] at I3
  refine ⟨m3, n3, I3, fun R KK => ?_⟩
  have S3 := I3.1
  clear I3 v2 o2 i4 i5 hD
  have e71 : m 203 71 = Int32.ofNat (lm_sa W.2.1) := i1.2.1.2.2.2.2.1
  refine lm_e117_6 ?_
  unfold lm_q117_6
  rw [lm_K0, lm_K6]
  repeat (first
    | ((with_reducible apply lm_sI); exact rfl)
    | ((with_reducible apply lm_sR); exact rfl)
    | ((with_reducible apply lm_sS); exact rfl; exact rfl)
    | ((with_reducible apply lm_sL); exact rfl)
    | ((with_reducible apply lm_sP); exact rfl; exact rfl)
    | ((with_reducible apply lm_sPL); exact rfl; exact rfl)
    | ((with_reducible apply lm_sAA); exact rfl; exact rfl)
    | ((with_reducible apply lm_sA); (first | exact rfl | assumption); omega)
    | ((with_reducible apply lm_sJ); (first | exact rfl | assumption); omega)
    | ((with_reducible apply lm_sB); (first | exact rfl | assumption); omega)
    | ((with_reducible apply lm_wA); (first | exact rfl | assumption); omega)
    | ((with_reducible apply lm_wJ); (first | exact rfl | assumption); omega)
    | ((with_reducible apply lm_wB); (first | exact rfl | assumption); omega)
    | ((with_reducible apply lm_sAl); (first | exact rfl | assumption); omega)
    | ((with_reducible apply lm_iW); decide))
  simp only [Nat.reduceDiv, Nat.reduceMod]
  rw [i1.2.1.2.2.2.2.2.1]
  refine lm_geF (by omega) (by omega) (by omega) ?_
  repeat (first
    | ((with_reducible apply lm_sI); exact rfl)
    | ((with_reducible apply lm_sR); exact rfl)
    | ((with_reducible apply lm_sS); exact rfl; exact rfl)
    | ((with_reducible apply lm_sL); exact rfl)
    | ((with_reducible apply lm_sP); exact rfl; exact rfl)
    | ((with_reducible apply lm_sPL); exact rfl; exact rfl)
    | ((with_reducible apply lm_sAA); exact rfl; exact rfl)
    | ((with_reducible apply lm_sA); (first | exact rfl | assumption); omega)
    | ((with_reducible apply lm_sJ); (first | exact rfl | assumption); omega)
    | ((with_reducible apply lm_sB); (first | exact rfl | assumption); omega)
    | ((with_reducible apply lm_wA); (first | exact rfl | assumption); omega)
    | ((with_reducible apply lm_wJ); (first | exact rfl | assumption); omega)
    | ((with_reducible apply lm_wB); (first | exact rfl | assumption); omega)
    | ((with_reducible apply lm_sAl); (first | exact rfl | assumption); omega)
    | ((with_reducible apply lm_iW); decide))
  refine lm_cI c0 ?_
  simp only [Nat.reduceDiv, Nat.reduceMod]
  rw [e71, ecf]
  repeat (first
    | ((with_reducible apply lm_sI); exact rfl)
    | ((with_reducible apply lm_sR); exact rfl)
    | ((with_reducible apply lm_sS); exact rfl; exact rfl)
    | ((with_reducible apply lm_sL); exact rfl)
    | ((with_reducible apply lm_sP); exact rfl; exact rfl)
    | ((with_reducible apply lm_sPL); exact rfl; exact rfl)
    | ((with_reducible apply lm_sAA); exact rfl; exact rfl)
    | ((with_reducible apply lm_sA); (first | exact rfl | assumption); omega)
    | ((with_reducible apply lm_sJ); (first | exact rfl | assumption); omega)
    | ((with_reducible apply lm_sB); (first | exact rfl | assumption); omega)
    | ((with_reducible apply lm_wA); (first | exact rfl | assumption); omega)
    | ((with_reducible apply lm_wJ); (first | exact rfl | assumption); omega)
    | ((with_reducible apply lm_wB); (first | exact rfl | assumption); omega)
    | ((with_reducible apply lm_sAl); (first | exact rfl | assumption); omega)
    | ((with_reducible apply lm_iW); decide))
  refine lm_cV c1 ?_
  repeat (first
    | ((with_reducible apply lm_sI); exact rfl)
    | ((with_reducible apply lm_sR); exact rfl)
    | ((with_reducible apply lm_sS); exact rfl; exact rfl)
    | ((with_reducible apply lm_sL); exact rfl)
    | ((with_reducible apply lm_sP); exact rfl; exact rfl)
    | ((with_reducible apply lm_sPL); exact rfl; exact rfl)
    | ((with_reducible apply lm_sAA); exact rfl; exact rfl)
    | ((with_reducible apply lm_sA); (first | exact rfl | assumption); omega)
    | ((with_reducible apply lm_sJ); (first | exact rfl | assumption); omega)
    | ((with_reducible apply lm_sB); (first | exact rfl | assumption); omega)
    | ((with_reducible apply lm_wA); (first | exact rfl | assumption); omega)
    | ((with_reducible apply lm_wJ); (first | exact rfl | assumption); omega)
    | ((with_reducible apply lm_wB); (first | exact rfl | assumption); omega)
    | ((with_reducible apply lm_sAl); (first | exact rfl | assumption); omega)
    | ((with_reducible apply lm_iW); decide))
  refine lm_cV c2 ?_
  refine k3 _ ?_
  refine lm_e117_51 ?_
  unfold lm_q117_51
  repeat (first
    | ((with_reducible apply lm_sI); exact rfl)
    | ((with_reducible apply lm_sR); exact rfl)
    | ((with_reducible apply lm_sS); exact rfl; exact rfl)
    | ((with_reducible apply lm_sL); exact rfl)
    | ((with_reducible apply lm_sP); exact rfl; exact rfl)
    | ((with_reducible apply lm_sPL); exact rfl; exact rfl)
    | ((with_reducible apply lm_sAA); exact rfl; exact rfl)
    | ((with_reducible apply lm_sA); (first | exact rfl | assumption); omega)
    | ((with_reducible apply lm_sJ); (first | exact rfl | assumption); omega)
    | ((with_reducible apply lm_sB); (first | exact rfl | assumption); omega)
    | ((with_reducible apply lm_wA); (first | exact rfl | assumption); omega)
    | ((with_reducible apply lm_wJ); (first | exact rfl | assumption); omega)
    | ((with_reducible apply lm_wB); (first | exact rfl | assumption); omega)
    | ((with_reducible apply lm_sAl); (first | exact rfl | assumption); omega)
    | ((with_reducible apply lm_iW); decide))
  simp only [Nat.reduceDiv, Nat.reduceMod]
  rw [S3.2.1.2.2.2.2.1]
  refine lm_geT (by omega) (by omega) (Nat.le_refl _) ?_
  repeat (first
    | ((with_reducible apply lm_sI); exact rfl)
    | ((with_reducible apply lm_sR); exact rfl)
    | ((with_reducible apply lm_sS); exact rfl; exact rfl)
    | ((with_reducible apply lm_sL); exact rfl)
    | ((with_reducible apply lm_sP); exact rfl; exact rfl)
    | ((with_reducible apply lm_sPL); exact rfl; exact rfl)
    | ((with_reducible apply lm_sAA); exact rfl; exact rfl)
    | ((with_reducible apply lm_sA); (first | exact rfl | assumption); omega)
    | ((with_reducible apply lm_sJ); (first | exact rfl | assumption); omega)
    | ((with_reducible apply lm_sB); (first | exact rfl | assumption); omega)
    | ((with_reducible apply lm_wA); (first | exact rfl | assumption); omega)
    | ((with_reducible apply lm_wJ); (first | exact rfl | assumption); omega)
    | ((with_reducible apply lm_wB); (first | exact rfl | assumption); omega)
    | ((with_reducible apply lm_sAl); (first | exact rfl | assumption); omega)
    | ((with_reducible apply lm_iW); decide))
  simp only [Nat.reduceDiv, Nat.reduceMod]
  rw [S3.2.1.2.2.2.2.1, S3.2.1.1, lm_K1, lm_oo, lm_om, lm_oo, lm_oo, Nat.mul_comm (1 + lm_sa W.2.1), Nat.add_assoc, ← Nat.succ_mul]
  exact KK
theorem lm_u117 (hs : W.2.1 ≤ 11) (h : lm_RX W m n) (hp : lm_ar p = some (1, w)) (gp : p ≠ 203 ∧ p ≠ 227 ∧ p ≠ 221 ∧ p < 333) (hbw : b + lm_fsz W.2.1 ≤ w) (hw : w ≤ 70000) (hD : ∀ t, t < lm_fb W.2.1 → lm_b8 (m 356 t) = D t) : ∃ m' n', lm_cal sc (d + 25) 117 [.ref 203, .int u, .ref p, .int (Int32.ofNat b)] (lm_w m n x) = some (.ok none, lm_w m' n' x) ∧ lm_RX W m' n' ∧ (∀ r, r ≠ 203 → r ≠ 227 → (r < 333 ∨ 350 < r) → r ≠ 353 → r ≠ p → m' r = m r) ∧ lm_fG m n m' n' ∧ (∀ i, i < b → m' p i = m p i) ∧ lm_PQw m' p b (lm_sf W u D) (lm_fsz W.2.1) := by
  have hpar := lm_spar _ hs
  obtain ⟨m1, n1, ⟨i1, i2, i3, i4, i5⟩, k1⟩ := lm_lp (fr := fun j => (6, [(0, .ref 203), (1, .int u), (2, .ref p), (4, .int (Int32.ofNat (b + j * (lm_sn W.2.1 * (1 + lm_sa W.2.1))))), (5, .int (Int32.ofNat j))], [])) (lm_l117b (sc := sc) (u := u) (D := D) (d := d) (x := x) (m0 := m) (n0 := n) hs hp gp hbw hw hD) (ln_sT W.2.1) 0 (Nat.zero_add _) m n ⟨h, fun _ _ _ _ _ _ => rfl, lm_fG.rf, fun _ _ => rfl, fun t ht => absurd ht (by rw [Nat.zero_mul]; omega)⟩
  refine ⟨m1, n1, ?_, i1, i2, i3, i4, i5⟩
  clear i4 i5 hD
  rw [Nat.zero_mul, Nat.add_zero] at k1
  refine lm_cal_of (Y := lm_m117) rfl rfl (lm_e117_0 ?_)
  unfold lm_q117_0
  rw [lm_K0]
  refine k1 _ ?_
  refine lm_e117_6 ?_
  unfold lm_q117_6
  repeat (first
    | ((with_reducible apply lm_sI); exact rfl)
    | ((with_reducible apply lm_sR); exact rfl)
    | ((with_reducible apply lm_sS); exact rfl; exact rfl)
    | ((with_reducible apply lm_sL); exact rfl)
    | ((with_reducible apply lm_sP); exact rfl; exact rfl)
    | ((with_reducible apply lm_sPL); exact rfl; exact rfl)
    | ((with_reducible apply lm_sAA); exact rfl; exact rfl)
    | ((with_reducible apply lm_sA); (first | exact rfl | assumption); omega)
    | ((with_reducible apply lm_sJ); (first | exact rfl | assumption); omega)
    | ((with_reducible apply lm_sB); (first | exact rfl | assumption); omega)
    | ((with_reducible apply lm_wA); (first | exact rfl | assumption); omega)
    | ((with_reducible apply lm_wJ); (first | exact rfl | assumption); omega)
    | ((with_reducible apply lm_wB); (first | exact rfl | assumption); omega)
    | ((with_reducible apply lm_sAl); (first | exact rfl | assumption); omega)
    | ((with_reducible apply lm_iW); decide))
  simp only [Nat.reduceDiv, Nat.reduceMod]
  rw [i1.2.1.2.2.2.2.2.1]
  exact lm_geT (by omega) (by omega) (Nat.le_refl _) rfl
theorem lm_u112 (hF : lm_RF m s) : lm_cal sc (d + 1) 112 [.ref 203] (lm_w m n x) = some (.ok (some (.int (Int32.ofNat (if lm_sn s = 16 then 1 else 3)))), lm_w m n x) := by
  have hb := lm_sn_b (s := s)
  refine lm_cal_of (Y := lm_m112) rfl rfl (lm_e112_0 ?_)
  unfold lm_q112_0
  rw [lm_K16]
  repeat (first
    | ((with_reducible apply lm_sI); exact rfl)
    | ((with_reducible apply lm_sR); exact rfl)
    | ((with_reducible apply lm_sS); exact rfl; exact rfl)
    | ((with_reducible apply lm_sL); exact rfl)
    | ((with_reducible apply lm_sP); exact rfl; exact rfl)
    | ((with_reducible apply lm_sPL); exact rfl; exact rfl)
    | ((with_reducible apply lm_sAA); exact rfl; exact rfl)
    | ((with_reducible apply lm_sA); (first | exact rfl | assumption); omega)
    | ((with_reducible apply lm_sJ); (first | exact rfl | assumption); omega)
    | ((with_reducible apply lm_sB); (first | exact rfl | assumption); omega)
    | ((with_reducible apply lm_wA); (first | exact rfl | assumption); omega)
    | ((with_reducible apply lm_wJ); (first | exact rfl | assumption); omega)
    | ((with_reducible apply lm_wB); (first | exact rfl | assumption); omega)
    | ((with_reducible apply lm_sAl); (first | exact rfl | assumption); omega)
    | ((with_reducible apply lm_iW); decide))
  simp only [Nat.reduceDiv, Nat.reduceMod]
  rw [hF.1]
  by_cases c : lm_sn s = 16
  · rw [if_pos c]
    exact lm_neF (by omega) (by omega) (fun g => g c) rfl
  · rw [if_neg c]
    exact lm_neT (by omega) (by omega) c rfl
theorem lm_fbn (hs : s ≤ 11) : (Int32.ofNat (ln_sT s) * Int32.ofNat (lm_sa s) + Int32.ofInt 7) / Int32.ofInt 8 = Int32.ofNat (lm_fb s) ∧ (Int32.ofNat (lm_sHt s) - Int32.ofNat (lm_sh s) + Int32.ofInt 7) / Int32.ofInt 8 = Int32.ofNat (lm_tB s) ∧ (Int32.ofNat (lm_sh s) + Int32.ofInt 7) / Int32.ofInt 8 = Int32.ofNat (lm_lb s) ∧ Int32.ofNat (lm_sHt s) - Int32.ofNat (lm_sh s) = Int32.ofNat (lm_tbs s) := by
  have hpar := lm_spar s hs
  have hp2 := lm_spar2 s hs
  rw [show Int32.ofInt 7 = Int32.ofNat 7 from rfl, show Int32.ofInt 8 = Int32.ofNat 8 from rfl]
  refine ⟨?_, ?_, ?_, ?_⟩
  · rw [lm_om, lm_oo, lm_od (by omega) (by decide)]; rfl
  · rw [lm_osu (by omega), lm_oo, lm_od (by omega) (by decide)]; rfl
  · rw [lm_oo, lm_od (by omega) (by decide)]; rfl
  · rw [lm_osu (by omega)]; rfl
theorem lm_u116 (hs : s ≤ 11) (h : lm_RF m s) (hD : ∀ t, t < lm_fb s + lm_tB s + lm_lb s → lm_b8 (m 356 t) = D t) : lm_cal sc (d + 1) 116 [.ref 203] (lm_w m n x) = some (.ok (some (.int (Int32.ofNat (lm_clf s D)))), lm_w m n x) := by
  have hpar := lm_spar s hs
  have h2 := lm_spar2 s hs
  obtain ⟨b1, b2, b3, b4⟩ := lm_fbn hs
  have lp : ∀ k c, c + k = lm_lb s → lm_rn sc d lm_m116.2.2.2.2.1 (lm_reg lm_m116.2.2.2.2.2) (48, [(0, .ref 203), (1, .int (Int32.ofNat (lm_fb s + lm_tB s))), (2, .int (Int32.ofNat (lm_lb s))), (3, .int (Int32.ofNat (lm_bnm D (lm_fb s + lm_tB s) c))), (4, .int (Int32.ofNat c))], []) (lm_w m n x) = some (.ok (some (.int (Int32.ofNat (lm_clf s D)))), lm_w m n x) := by
    intro k
    induction k with
    | zero =>
      intro c hc
      have hc : c = lm_lb s := hc
      subst hc
      refine lm_e116_48 ?_
      unfold lm_q116_48
      refine lm_geT (by omega) (by omega) (Nat.le_refl _) ?_
      repeat (first
    | ((with_reducible apply lm_sI); exact rfl)
    | ((with_reducible apply lm_sR); exact rfl)
    | ((with_reducible apply lm_sS); exact rfl; exact rfl)
    | ((with_reducible apply lm_sL); exact rfl)
    | ((with_reducible apply lm_sP); exact rfl; exact rfl)
    | ((with_reducible apply lm_sPL); exact rfl; exact rfl)
    | ((with_reducible apply lm_sAA); exact rfl; exact rfl)
    | ((with_reducible apply lm_sA); (first | exact rfl | assumption); omega)
    | ((with_reducible apply lm_sJ); (first | exact rfl | assumption); omega)
    | ((with_reducible apply lm_sB); (first | exact rfl | assumption); omega)
    | ((with_reducible apply lm_wA); (first | exact rfl | assumption); omega)
    | ((with_reducible apply lm_wJ); (first | exact rfl | assumption); omega)
    | ((with_reducible apply lm_wB); (first | exact rfl | assumption); omega)
    | ((with_reducible apply lm_sAl); (first | exact rfl | assumption); omega)
    | ((with_reducible apply lm_iW); decide))
      simp only [Nat.reduceDiv, Nat.reduceMod]
      rw [h.2.2.2.1, lm_msk (by omega), lm_andM (by omega)]
      exact rfl
    | succ k ih =>
      intro c hc
      have hb := lm_bnm_lt (D := D) (p := lm_fb s + lm_tB s) c
      have hb2 : 256 ^ c ≤ 256 ^ 1 := Nat.pow_le_pow_right (by decide) (by omega)
      have hy := lm_yb_lt (m 356 (lm_fb s + lm_tB s + c))
      have ey : lm_yb (m 356 (lm_fb s + lm_tB s + c)) = lm_yb (D (lm_fb s + lm_tB s + c)) := by rw [← hD _ (by omega), lm_yb_b8]
      refine lm_e116_48 ?_
      unfold lm_q116_48
      rw [show Int32.ofInt 8 = Int32.ofNat 8 from rfl, lm_K1, lm_oo, lm_oo]
      refine lm_geF (by omega) (by omega) (by omega) ?_
      repeat (first
    | ((with_reducible apply lm_sI); exact rfl)
    | ((with_reducible apply lm_sR); exact rfl)
    | ((with_reducible apply lm_sS); exact rfl; exact rfl)
    | ((with_reducible apply lm_sL); exact rfl)
    | ((with_reducible apply lm_sP); exact rfl; exact rfl)
    | ((with_reducible apply lm_sPL); exact rfl; exact rfl)
    | ((with_reducible apply lm_sAA); exact rfl; exact rfl)
    | ((with_reducible apply lm_sA); (first | exact rfl | assumption); omega)
    | ((with_reducible apply lm_sJ); (first | exact rfl | assumption); omega)
    | ((with_reducible apply lm_sB); (first | exact rfl | assumption); omega)
    | ((with_reducible apply lm_wA); (first | exact rfl | assumption); omega)
    | ((with_reducible apply lm_wJ); (first | exact rfl | assumption); omega)
    | ((with_reducible apply lm_wB); (first | exact rfl | assumption); omega)
    | ((with_reducible apply lm_sAl); (first | exact rfl | assumption); omega)
    | ((with_reducible apply lm_iW); decide))
      rw [lm_b8u, Int32.or_comm, lm_orsh (b := 8) hy (by decide) (by omega), ey, show lm_yb (D (lm_fb s + lm_tB s + c)) + lm_bnm D (lm_fb s + lm_tB s) c * 2 ^ 8 = lm_bnm D (lm_fb s + lm_tB s) (c + 1) from Nat.add_comm ..]
      exact ih (c + 1) (by omega)
  have l0 := lp (lm_lb s) 0 (Nat.zero_add _)
  refine lm_cal_of (Y := lm_m116) rfl rfl (lm_e116_0 ?_)
  unfold lm_q116_0
  rw [lm_K0]
  repeat (first
    | ((with_reducible apply lm_sI); exact rfl)
    | ((with_reducible apply lm_sR); exact rfl)
    | ((with_reducible apply lm_sS); exact rfl; exact rfl)
    | ((with_reducible apply lm_sL); exact rfl)
    | ((with_reducible apply lm_sP); exact rfl; exact rfl)
    | ((with_reducible apply lm_sPL); exact rfl; exact rfl)
    | ((with_reducible apply lm_sAA); exact rfl; exact rfl)
    | ((with_reducible apply lm_sA); (first | exact rfl | assumption); omega)
    | ((with_reducible apply lm_sJ); (first | exact rfl | assumption); omega)
    | ((with_reducible apply lm_sB); (first | exact rfl | assumption); omega)
    | ((with_reducible apply lm_wA); (first | exact rfl | assumption); omega)
    | ((with_reducible apply lm_wJ); (first | exact rfl | assumption); omega)
    | ((with_reducible apply lm_wB); (first | exact rfl | assumption); omega)
    | ((with_reducible apply lm_sAl); (first | exact rfl | assumption); omega)
    | ((with_reducible apply lm_iW); decide))
  simp only [Nat.reduceDiv, Nat.reduceMod]
  rw [h.2.2.2.2.2.1, h.2.2.2.2.1, h.2.1, h.2.2.2.1, b1, b2, b3, lm_oo]
  exact l0
theorem lm_msk6 {k : Nat} (hk : k < 64) : (Int64.ofNat 1 <<< ((Int32.toInt64 (Int32.ofNat k)) &&& 63)) - Int64.ofNat 1 = Int64.ofNat (2 ^ k - 1) := by
  rw [lm_slW hk (by decide), Nat.one_mul]
  have h0 : 0 < 2 ^ k := Nat.two_pow_pos k
  have e : Int64.ofNat (2 ^ k) = Int64.ofNat (2 ^ k - 1) + Int64.ofNat 1 := by rw [← Int64.ofNat_add]; congr 1; omega
  rw [e, Int64.add_sub_cancel]
theorem lm_and6 {a k : Nat} (ha : a < 18446744073709551616) (hk : k < 64) : Int64.ofNat a &&& Int64.ofNat (2 ^ k - 1) = Int64.ofNat (a % 2 ^ k) := by
  have hp : 2 ^ k < 18446744073709551616 := Nat.pow_lt_pow_right (by decide) hk
  apply Int64.toBitVec_inj.mp
  apply BitVec.eq_of_toNat_eq
  have key : ∀ M, a < M → 2 ^ k < M → (a % M &&& (2 ^ k - 1) % M) = a % 2 ^ k % M := fun M h1 h2 => by
    have h3 : a % 2 ^ k ≤ a := Nat.mod_le _ _
    rw [Nat.mod_eq_of_lt h1, Nat.mod_eq_of_lt (Nat.lt_of_le_of_lt (Nat.sub_le _ _) h2), Nat.mod_eq_of_lt (Nat.lt_of_le_of_lt h3 h1), Nat.and_two_pow_sub_one_eq_mod]
  rw [Int64.toBitVec_and, BitVec.toNat_and, Int64.toBitVec_ofNat', Int64.toBitVec_ofNat', Int64.toBitVec_ofNat', BitVec.toNat_ofNat, BitVec.toNat_ofNat, BitVec.toNat_ofNat]
  exact key _ ha hp
theorem lm_b8uL (v : Int32) : Int32.toInt64 (lm_b8 v) &&& Int64.ofNat 255 = Int64.ofNat (lm_yb v) := by
  have e : Int32.toInt64 (lm_b8 v) &&& Int64.ofNat 255 = Int32.toInt64 (lm_b8 v &&& Int32.ofInt 255) := by
    apply Int64.toBitVec_inj.mp
    apply BitVec.eq_of_getLsbD_eq
    intro i hi
    have e1 : (Int64.ofNat 255).toBitVec = 255#64 := rfl
    have e2 : (lm_b8 v &&& Int32.ofInt 255).toBitVec = (lm_b8 v).toBitVec &&& 255#32 := rfl
    rw [Int64.toBitVec_and, Int32.toBitVec_toInt64, Int32.toBitVec_toInt64, BitVec.getLsbD_and, BitVec.getLsbD_signExtend, BitVec.getLsbD_signExtend, e1, e2, BitVec.getLsbD_and, BitVec.msb_and]
    have hb : (255#64).getLsbD i = decide (i < 8) := lm_255b i hi
    have hm : (255#32).msb = false := by decide
    rw [hb, hm, Bool.and_false]
    by_cases c : i < 32
    · rw [if_pos c, if_pos c, lm_255c i c, decide_eq_true hi]
      simp
    · rw [if_neg c, if_neg c, decide_eq_false (show ¬ i < 8 by omega)]
      simp
  rw [e, lm_b8u, lm_i2l (by have := lm_yb_lt v; omega)]
end LMUD
