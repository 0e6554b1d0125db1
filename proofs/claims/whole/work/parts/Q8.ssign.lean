/-! ===== SLH of the class: the forest is signed ===== -/
/-- bytes written one behind the other -/
def lm_PQw (m : lm_MI) (p b : Nat) (F : Nat → Int32) (K : Nat) : Prop := ∀ t, t < K → lm_b8 (m p (b + t)) = F t
theorem lm_PQw.ap {m m' : lm_MI} {p b K N : Nat} {F : Nat → Int32} (h : lm_PQw m p b F K) (o : ∀ i, i < b + K ∨ b + K + N ≤ i → m' p i = m p i) (v : ∀ i, i < N → lm_b8 (m' p (b + K + i)) = F (K + i)) : lm_PQw m' p b F (K + N) := fun t ht => by
  by_cases c : t < K
  · rw [o _ (by omega)]; exact h t c
  · rw [show t = K + (t - K) by omega, ← Nat.add_assoc]; exact v _ (by omega)
theorem lm_xor1 {a : Nat} (ha : a < 1048576) : Int32.ofNat a ^^^ Int32.ofNat 1 = Int32.ofNat (a ^^^ 1) := by
  apply lm_32n
  rw [Int32.toBitVec_xor, BitVec.toNat_xor, lm_tn (by omega), lm_tn (by decide)]
theorem lm_xor1_b {a z : Nat} (ha : a < 1048576) (hz : z ≤ 14) : (a / 2 ^ z ^^^ 1) < 1048576 ∧ ((a / 2 ^ z ^^^ 1) + 1) * 2 ^ z ≤ 2000000 := by
  have e : (2 : Nat) ^ (20 - z) * 2 ^ z = 1048576 := by rw [← Nat.pow_add, show 20 - z + z = 20 by omega]
  have h1 : a / 2 ^ z < 2 ^ (20 - z) := by
    rw [Nat.div_lt_iff_lt_mul (Nat.two_pow_pos z), e]
    exact ha
  have h2 : 1 < 2 ^ (20 - z) := Nat.lt_of_lt_of_le (show 1 < 2 ^ 6 by decide) (Nat.pow_le_pow_right (by decide) (by omega))
  have h3 := Nat.xor_lt_two_pow h1 h2
  have h4 : ((a / 2 ^ z ^^^ 1) + 1) * 2 ^ z ≤ 2 ^ (20 - z) * 2 ^ z := Nat.mul_le_mul_right _ h3
  have h5 : 2 ^ (20 - z) ≤ 2 ^ 20 := Nat.pow_le_pow_right (by decide) (by omega)
  have h6 : (2 : Nat) ^ 20 = 1048576 := rfl
  omega
/-- the forest's bytes of a packet -/
def lm_sf (W : lm_WT) (u : Int32) (D : Nat → Int32) (t : Nat) : Int32 :=
  if t % (lm_sn W.2.1 * (1 + lm_sa W.2.1)) / lm_sn W.2.1 = 0 then lm_hfs W u (Int32.ofNat (lm_cfl D (lm_sa W.2.1) (t / (lm_sn W.2.1 * (1 + lm_sa W.2.1))) (lm_sa W.2.1))) (t % (lm_sn W.2.1 * (1 + lm_sa W.2.1)) % lm_sn W.2.1)
  else lm_hnd W true u (t % (lm_sn W.2.1 * (1 + lm_sa W.2.1)) / lm_sn W.2.1 - 1) (lm_cfl D (lm_sa W.2.1) (t / (lm_sn W.2.1 * (1 + lm_sa W.2.1))) (lm_sa W.2.1) / 2 ^ (t % (lm_sn W.2.1 * (1 + lm_sa W.2.1)) / lm_sn W.2.1 - 1) ^^^ 1) (t % (lm_sn W.2.1 * (1 + lm_sa W.2.1)) % lm_sn W.2.1)
theorem lm_sf_0 {W : lm_WT} {u : Int32} {D : Nat → Int32} {j i : Nat} (hi : i < lm_sn W.2.1) : lm_sf W u D (j * (lm_sn W.2.1 * (1 + lm_sa W.2.1)) + i) = lm_hfs W u (Int32.ofNat (lm_cfl D (lm_sa W.2.1) j (lm_sa W.2.1))) i := by
  have hB := lm_fsz_n (s := W.2.1)
  have h := lm_dmn (j := j) (n := lm_sn W.2.1 * (1 + lm_sa W.2.1)) (i := i) (by omega)
  unfold lm_sf
  rw [h.1, h.2, Nat.div_eq_of_lt hi, if_pos rfl, Nat.mod_eq_of_lt hi]
theorem lm_sf_1 {W : lm_WT} {u : Int32} {D : Nat → Int32} {j z i : Nat} (hz : z < lm_sa W.2.1) (hi : i < lm_sn W.2.1) : lm_sf W u D (j * (lm_sn W.2.1 * (1 + lm_sa W.2.1)) + (lm_sn W.2.1 + z * lm_sn W.2.1) + i) = lm_hnd W true u z (lm_cfl D (lm_sa W.2.1) j (lm_sa W.2.1) / 2 ^ z ^^^ 1) i := by
  have hB := lm_fsz_n (s := W.2.1)
  have hz2 : z * lm_sn W.2.1 + lm_sn W.2.1 ≤ lm_sa W.2.1 * lm_sn W.2.1 := by rw [← Nat.succ_mul]; exact Nat.mul_le_mul_right _ hz
  have h := lm_dmn (j := j) (n := lm_sn W.2.1 * (1 + lm_sa W.2.1)) (i := lm_sn W.2.1 + z * lm_sn W.2.1 + i) (by omega)
  have h2 := lm_dmn (j := z + 1) (n := lm_sn W.2.1) (i := i) hi
  rw [Nat.succ_mul, Nat.add_comm (z * lm_sn W.2.1)] at h2
  unfold lm_sf
  rw [Nat.add_assoc, h.1, h.2, h2.1, h2.2, if_neg (by omega), Nat.add_sub_cancel]
section LMTI
variable {xs : List Int32} {d : Nat} {W : lm_WT} {m m' : lm_MI} {n n' : lm_ML} {x : lm_H × Nat × Nat} {D : Nat → Int32} {u : Int32} {p w j Lf : Nat}
def lm_I182 (W : lm_WT) (F : Nat → Int32) (p : Nat) (m0 : lm_MI) (n0 : lm_ML) (K : Nat) (m : lm_MI) (n : lm_ML) : Prop := lm_SX W m n ∧ (∀ r, (r < 5 ∨ 22 < r) → r ≠ 195 → r ≠ 199 → r ≠ 200 → r ≠ p → m r = m0 r) ∧ lm_fN m0 n0 m n ∧ (∀ i, i < lm_sn W.2.1 → m p i = m0 p i) ∧ lm_PQw m p (lm_sn W.2.1) F K
theorem lm_l182a (hC : lm_Cok xs W.1) (hs : W.2.1 ≤ 11) {m0 : lm_MI} {n0 : lm_ML} (hp : lm_ar p = some (1, w)) (gp : 22 < p) (gp5 : p ≠ 195) (gp6 : p ≠ 196) (gp9 : p ≠ 199) (gp0 : p ≠ 200) (hbw : lm_sn W.2.1 + lm_fsz W.2.1 ≤ w) (hw : w ≤ 70000) (hj : j < ln_sT W.2.1) (hL : Lf < 589824) (eL : lm_cfl D (lm_sa W.2.1) j (lm_sa W.2.1) = Lf) : ∀ z, z < lm_sa W.2.1 → ∀ m n, lm_I182 W (lm_sf W u D) p m0 n0 (j * (lm_sn W.2.1 * (1 + lm_sa W.2.1)) + (lm_sn W.2.1 + z * lm_sn W.2.1)) m n → ∃ m' n', lm_I182 W (lm_sf W u D) p m0 n0 (j * (lm_sn W.2.1 * (1 + lm_sa W.2.1)) + (lm_sn W.2.1 + (z + 1) * lm_sn W.2.1)) m' n' ∧ ∀ R, lm_rn (lm_sc xs) (d + 7) lm_m182.2.2.2.2.1 (lm_reg lm_m182.2.2.2.2.2) (74, [(0, .ref 194), (1, .ref p), (2, .int u), (3, .int (Int32.ofNat (lm_sn W.2.1 + (j * (lm_sn W.2.1 * (1 + lm_sa W.2.1)) + (lm_sn W.2.1 + (z + 1) * lm_sn W.2.1))))), (4, .int (Int32.ofNat j)), (5, .int (Int32.ofNat Lf)), (6, .int (Int32.ofNat (z + 1)))], []) (lm_w m' n' x) = some R → lm_rn (lm_sc xs) (d + 7) lm_m182.2.2.2.2.1 (lm_reg lm_m182.2.2.2.2.2) (74, [(0, .ref 194), (1, .ref p), (2, .int u), (3, .int (Int32.ofNat (lm_sn W.2.1 + (j * (lm_sn W.2.1 * (1 + lm_sa W.2.1)) + (lm_sn W.2.1 + z * lm_sn W.2.1))))), (4, .int (Int32.ofNat j)), (5, .int (Int32.ofNat Lf)), (6, .int (Int32.ofNat z))], []) (lm_w m n x) = some R := by
  intro z hz m n ⟨i1, i2, i3, i4, i5⟩
  have hpar := lm_spar _ hs
  have hfz := lm_fsz_b hs hj
  have hfn := lm_fsz_n (s := W.2.1)
  have hz2 : z * lm_sn W.2.1 + lm_sn W.2.1 ≤ lm_sa W.2.1 * lm_sn W.2.1 := by rw [← Nat.succ_mul]; exact Nat.mul_le_mul_right _ hz
  have hv := fun i (hi : i < lm_sn W.2.1) => lm_sf_1 (u := u) (D := D) (j := j) hz hi
  rw [eL] at hv
  generalize eO : j * (lm_sn W.2.1 * (1 + lm_sa W.2.1)) = O at hfz i5 hv ⊢
  have hx := lm_xor1_b (a := Lf) (z := z) (by omega) (by omega)
  have hd : Lf / 2 ^ z < 1048576 := Nat.lt_of_le_of_lt (Nat.div_le_self _ _) (by omega)
  obtain ⟨m1, n1, c1, f1, g1, S1, o1, v1⟩ := lm_u194 (d := d) (x := x) (fo := true) (u := u) (z := z) (i := Lf / 2 ^ z ^^^ 1) (p := p) (w := w) (b := lm_sn W.2.1 + (O + (lm_sn W.2.1 + z * lm_sn W.2.1))) hC hs i1 (by omega) hx.2 hp gp gp5 gp6 gp9 gp0 (by omega) hw
  have ek : O + (lm_sn W.2.1 + (z + 1) * lm_sn W.2.1) = O + (lm_sn W.2.1 + z * lm_sn W.2.1) + lm_sn W.2.1 := by rw [Nat.succ_mul]; omega
  refine ⟨m1, n1, ⟨S1, fun r r1 r2 r3 r4 r5 => by rw [f1 r r1 r2 r3 r4 r5, i2 r r1 r2 r3 r4 r5], i3.tr g1, fun i hi => by rw [o1 i (by omega), i4 i hi], ?_⟩, fun R KK => ?_⟩
  · rw [ek]
    exact i5.ap (fun i hi => o1 i hi) (fun i hi => by rw [v1 i hi, hv i hi])
  · clear v1 o1 i4 i5 hv
    refine lm_e182_74 ?_
    unfold lm_q182_74
    rw [lm_K1, lm_K3, lm_oo, lm_srN (a := Lf) (b := z) (by omega) (by omega), lm_xor1 hd]
    repeat (first
    | ((with_reducible apply lm_sI); exact rfl)
    | ((with_reducible apply lm_sR); exact rfl)
    | ((with_reducible apply lm_sS); exact rfl; exact rfl)
    | ((with_reducible apply lm_sL); exact rfl)
    | ((with_reducible apply lm_sP); exact rfl; exact rfl)
    | ((with_reducible apply lm_sPL); exact rfl; exact rfl)
    | ((with_reducible apply lm_sAA); exact rfl; exact rfl)
    | ((with_reducible apply lm_sA); (first | exact rfl | assumption); omega)
    | ((with_reducible apply lm_sJ); (first | exact rfl | assumption); omega)
    | ((with_reducible apply lm_sB); (first | exact rfl | assumption); omega)
    | ((with_reducible apply lm_wA); (first | exact rfl | assumption); omega)
    | ((with_reducible apply lm_wJ); (first | exact rfl | assumption); omega)
    | ((with_reducible apply lm_wB); (first | exact rfl | assumption); omega)
    | ((with_reducible apply lm_sAl); (first | exact rfl | assumption); omega)
    | ((with_reducible apply lm_iW); decide))
    simp only [Nat.reduceDiv, Nat.reduceMod]
    rw [i1.1.1.2.2.2.2.1]
    refine lm_geF (by omega) (by omega) (by omega) ?_
    repeat (first
    | ((with_reducible apply lm_sI); exact rfl)
    | ((with_reducible apply lm_sR); exact rfl)
    | ((with_reducible apply lm_sS); exact rfl; exact rfl)
    | ((with_reducible apply lm_sL); exact rfl)
    | ((with_reducible apply lm_sP); exact rfl; exact rfl)
    | ((with_reducible apply lm_sPL); exact rfl; exact rfl)
    | ((with_reducible apply lm_sAA); exact rfl; exact rfl)
    | ((with_reducible apply lm_sA); (first | exact rfl | assumption); omega)
    | ((with_reducible apply lm_sJ); (first | exact rfl | assumption); omega)
    | ((with_reducible apply lm_sB); (first | exact rfl | assumption); omega)
    | ((with_reducible apply lm_wA); (first | exact rfl | assumption); omega)
    | ((with_reducible apply lm_wJ); (first | exact rfl | assumption); omega)
    | ((with_reducible apply lm_wB); (first | exact rfl | assumption); omega)
    | ((with_reducible apply lm_sAl); (first | exact rfl | assumption); omega)
    | ((with_reducible apply lm_iW); decide))
    refine lm_cV c1 ?_
    repeat (first
    | ((with_reducible apply lm_sI); exact rfl)
    | ((with_reducible apply lm_sR); exact rfl)
    | ((with_reducible apply lm_sS); exact rfl; exact rfl)
    | ((with_reducible apply lm_sL); exact rfl)
    | ((with_reducible apply lm_sP); exact rfl; exact rfl)
    | ((with_reducible apply lm_sPL); exact rfl; exact rfl)
    | ((with_reducible apply lm_sAA); exact rfl; exact rfl)
    | ((with_reducible apply lm_sA); (first | exact rfl | assumption); omega)
    | ((with_reducible apply lm_sJ); (first | exact rfl | assumption); omega)
    | ((with_reducible apply lm_sB); (first | exact rfl | assumption); omega)
    | ((with_reducible apply lm_wA); (first | exact rfl | assumption); omega)
    | ((with_reducible apply lm_wJ); (first | exact rfl | assumption); omega)
    | ((with_reducible apply lm_wB); (first | exact rfl | assumption); omega)
    | ((with_reducible apply lm_sAl); (first | exact rfl | assumption); omega)
    | ((with_reducible apply lm_iW); decide))
    simp only [Nat.reduceDiv, Nat.reduceMod]
    rw [S1.1.1.2.1, lm_oo, lm_oo]
    rw [ek, ← Nat.add_assoc (lm_sn W.2.1)] at KK
    exact KK
theorem lm_l182b (hC : lm_Cok xs W.1) (hs : W.2.1 ≤ 11) {m0 : lm_MI} {n0 : lm_ML} (hp : lm_ar p = some (1, w)) (gp : 22 < p) (gp5 : p ≠ 195) (gp6 : p ≠ 196) (gp9 : p ≠ 199) (gp0 : p ≠ 200) (gp1 : p ≠ 201) (hbw : lm_sn W.2.1 + lm_fsz W.2.1 ≤ w) (hw : w ≤ 70000) (hD : ∀ t, t < lm_fb W.2.1 → lm_b8 (m0 201 t) = D t) : ∀ j, j < ln_sT W.2.1 → ∀ m n, lm_I182 W (lm_sf W u D) p m0 n0 (j * (lm_sn W.2.1 * (1 + lm_sa W.2.1))) m n → ∃ m' n', lm_I182 W (lm_sf W u D) p m0 n0 ((j + 1) * (lm_sn W.2.1 * (1 + lm_sa W.2.1))) m' n' ∧ ∀ R, lm_rn (lm_sc xs) (d + 7) lm_m182.2.2.2.2.1 (lm_reg lm_m182.2.2.2.2.2) (22, [(0, .ref 194), (1, .ref p), (2, .int u), (3, .int (Int32.ofNat (lm_sn W.2.1 + (j + 1) * (lm_sn W.2.1 * (1 + lm_sa W.2.1))))), (4, .int (Int32.ofNat (j + 1)))], []) (lm_w m' n' x) = some R → lm_rn (lm_sc xs) (d + 7) lm_m182.2.2.2.2.1 (lm_reg lm_m182.2.2.2.2.2) (22, [(0, .ref 194), (1, .ref p), (2, .int u), (3, .int (Int32.ofNat (lm_sn W.2.1 + j * (lm_sn W.2.1 * (1 + lm_sa W.2.1))))), (4, .int (Int32.ofNat j))], []) (lm_w m n x) = some R := by
  intro j hj m n ⟨i1, i2, i3, i4, i5⟩
  have hpar := lm_spar _ hs
  have hfz := lm_fsz_b hs hj
  have hfn := lm_fsz_n (s := W.2.1)
  have hL := lm_cfl_lt (D := D) (a := lm_sa W.2.1) (j := j) (c := lm_sa W.2.1) (by omega) (by omega)
  have c0 := lm_u262 (sc := lm_sc xs) (d := d + 6) (n := n) (x := x) (D := D) hs i1.1.1.2.2.2.2.1 hj (fun t ht => by rw [i2 201 (by decide) (by decide) (by decide) (by decide) (fun e => gp1 e.symm)]; exact hD t ht)
  obtain ⟨m1, m2, n2, c1, c2, e1, f2, g2, S2, o2, v2⟩ := lm_nh (d := d + 2) (x := x) (q := 196) (v := 32) (a := 0) (l := lm_sn W.2.1) (X := W.2.2.2.1) (p := p) (w := w) (b := lm_sn W.2.1 + j * (lm_sn W.2.1 * (1 + lm_sa W.2.1))) (ty := Int32.ofNat 6) (u := u) (y := Int32.ofNat 0) (z := Int32.ofNat (lm_cfl D (lm_sa W.2.1) j (lm_sa W.2.1))) hC hs i1 rfl (by decide) (by decide) (by omega) (by decide) (fun t ht => by rw [Nat.zero_add]; exact i1.2.2 t ht) hp gp gp5 gp6 (by omega) hw
  obtain ⟨m3, n3, I3, k3⟩ := lm_lp (fr := fun z => (74, [(0, .ref 194), (1, .ref p), (2, .int u), (3, .int (Int32.ofNat (lm_sn W.2.1 + (j * (lm_sn W.2.1 * (1 + lm_sa W.2.1)) + (lm_sn W.2.1 + z * lm_sn W.2.1))))), (4, .int (Int32.ofNat j)), (5, .int (Int32.ofNat (lm_cfl D (lm_sa W.2.1) j (lm_sa W.2.1)))), (6, .int (Int32.ofNat z))], [])) (lm_l182a (u := u) (D := D) (d := d) (x := x) (m0 := m0) (n0 := n0) hC hs hp gp gp5 gp6 gp9 gp0 hbw hw hj hL rfl) (lm_sa W.2.1) 0 (Nat.zero_add _) m2 n2 ⟨S2, fun r r1 r2 r3 r4 r5 => by rw [f2 r r1 r2 r5, i2 r r1 r2 r3 r4 r5], i3.tr g2, fun i hi => by rw [o2 i (by omega), i4 i hi], by
    rw [Nat.zero_mul, Nat.add_zero]
    exact i5.ap (fun i hi => o2 i hi) (fun i hi => by rw [v2 i hi, lm_sf_0 hi]; rfl)⟩
  have ek : j * (lm_sn W.2.1 * (1 + lm_sa W.2.1)) + (lm_sn W.2.1 + lm_sa W.2.1 * lm_sn W.2.1) = (j + 1) * (lm_sn W.2.1 * (1 + lm_sa W.2.1)) := by rw [Nat.succ_mul, hfn]
  rw [ek] at I3 k3
  refine ⟨m3, n3, I3, fun R KK => ?_⟩
  have S3 := I3.1
  clear I3 v2 o2 i4 i5
  rw [Nat.zero_mul, Nat.add_zero] at k3
  refine lm_e182_22 ?_
  unfold lm_q182_22
  rw [lm_K0, lm_K6]
  repeat (first
    | ((with_reducible apply lm_sI); exact rfl)
    | ((with_reducible apply lm_sR); exact rfl)
    | ((with_reducible apply lm_sS); exact rfl; exact rfl)
    | ((with_reducible apply lm_sL); exact rfl)
    | ((with_reducible apply lm_sP); exact rfl; exact rfl)
    | ((with_reducible apply lm_sPL); exact rfl; exact rfl)
    | ((with_reducible apply lm_sAA); exact rfl; exact rfl)
    | ((with_reducible apply lm_sA); (first | exact rfl | assumption); omega)
    | ((with_reducible apply lm_sJ); (first | exact rfl | assumption); omega)
    | ((with_reducible apply lm_sB); (first | exact rfl | assumption); omega)
    | ((with_reducible apply lm_wA); (first | exact rfl | assumption); omega)
    | ((with_reducible apply lm_wJ); (first | exact rfl | assumption); omega)
    | ((with_reducible apply lm_wB); (first | exact rfl | assumption); omega)
    | ((with_reducible apply lm_sAl); (first | exact rfl | assumption); omega)
    | ((with_reducible apply lm_iW); decide))
  simp only [Nat.reduceDiv, Nat.reduceMod]
  rw [i1.1.1.2.2.2.2.2.1]
  refine lm_geF (by omega) (by omega) (by omega) ?_
  repeat (first
    | ((with_reducible apply lm_sI); exact rfl)
    | ((with_reducible apply lm_sR); exact rfl)
    | ((with_reducible apply lm_sS); exact rfl; exact rfl)
    | ((with_reducible apply lm_sL); exact rfl)
    | ((with_reducible apply lm_sP); exact rfl; exact rfl)
    | ((with_reducible apply lm_sPL); exact rfl; exact rfl)
    | ((with_reducible apply lm_sAA); exact rfl; exact rfl)
    | ((with_reducible apply lm_sA); (first | exact rfl | assumption); omega)
    | ((with_reducible apply lm_sJ); (first | exact rfl | assumption); omega)
    | ((with_reducible apply lm_sB); (first | exact rfl | assumption); omega)
    | ((with_reducible apply lm_wA); (first | exact rfl | assumption); omega)
    | ((with_reducible apply lm_wJ); (first | exact rfl | assumption); omega)
    | ((with_reducible apply lm_wB); (first | exact rfl | assumption); omega)
    | ((with_reducible apply lm_sAl); (first | exact rfl | assumption); omega)
    | ((with_reducible apply lm_iW); decide))
  refine lm_cI c0 ?_
  repeat (first
    | ((with_reducible apply lm_sI); exact rfl)
    | ((with_reducible apply lm_sR); exact rfl)
    | ((with_reducible apply lm_sS); exact rfl; exact rfl)
    | ((with_reducible apply lm_sL); exact rfl)
    | ((with_reducible apply lm_sP); exact rfl; exact rfl)
    | ((with_reducible apply lm_sPL); exact rfl; exact rfl)
    | ((with_reducible apply lm_sAA); exact rfl; exact rfl)
    | ((with_reducible apply lm_sA); (first | exact rfl | assumption); omega)
    | ((with_reducible apply lm_sJ); (first | exact rfl | assumption); omega)
    | ((with_reducible apply lm_sB); (first | exact rfl | assumption); omega)
    | ((with_reducible apply lm_wA); (first | exact rfl | assumption); omega)
    | ((with_reducible apply lm_wJ); (first | exact rfl | assumption); omega)
    | ((with_reducible apply lm_wB); (first | exact rfl | assumption); omega)
    | ((with_reducible apply lm_sAl); (first | exact rfl | assumption); omega)
    | ((with_reducible apply lm_iW); decide))
  refine lm_cV c1 ?_
  repeat (first
    | ((with_reducible apply lm_sI); exact rfl)
    | ((with_reducible apply lm_sR); exact rfl)
    | ((with_reducible apply lm_sS); exact rfl; exact rfl)
    | ((with_reducible apply lm_sL); exact rfl)
    | ((with_reducible apply lm_sP); exact rfl; exact rfl)
    | ((with_reducible apply lm_sPL); exact rfl; exact rfl)
    | ((with_reducible apply lm_sAA); exact rfl; exact rfl)
    | ((with_reducible apply lm_sA); (first | exact rfl | assumption); omega)
    | ((with_reducible apply lm_sJ); (first | exact rfl | assumption); omega)
    | ((with_reducible apply lm_sB); (first | exact rfl | assumption); omega)
    | ((with_reducible apply lm_wA); (first | exact rfl | assumption); omega)
    | ((with_reducible apply lm_wJ); (first | exact rfl | assumption); omega)
    | ((with_reducible apply lm_wB); (first | exact rfl | assumption); omega)
    | ((with_reducible apply lm_sAl); (first | exact rfl | assumption); omega)
    | ((with_reducible apply lm_iW); decide))
  simp only [Nat.reduceDiv, Nat.reduceMod]
  rw [e1, i1.1.1.2.1]
  refine lm_cV c2 ?_
  repeat (first
    | ((with_reducible apply lm_sI); exact rfl)
    | ((with_reducible apply lm_sR); exact rfl)
    | ((with_reducible apply lm_sS); exact rfl; exact rfl)
    | ((with_reducible apply lm_sL); exact rfl)
    | ((with_reducible apply lm_sP); exact rfl; exact rfl)
    | ((with_reducible apply lm_sPL); exact rfl; exact rfl)
    | ((with_reducible apply lm_sAA); exact rfl; exact rfl)
    | ((with_reducible apply lm_sA); (first | exact rfl | assumption); omega)
    | ((with_reducible apply lm_sJ); (first | exact rfl | assumption); omega)
    | ((with_reducible apply lm_sB); (first | exact rfl | assumption); omega)
    | ((with_reducible apply lm_wA); (first | exact rfl | assumption); omega)
    | ((with_reducible apply lm_wJ); (first | exact rfl | assumption); omega)
    | ((with_reducible apply lm_wB); (first | exact rfl | assumption); omega)
    | ((with_reducible apply lm_sAl); (first | exact rfl | assumption); omega)
    | ((with_reducible apply lm_iW); decide))
  simp only [Nat.reduceDiv, Nat.reduceMod]
  rw [S2.1.1.2.1, lm_oo, Nat.add_assoc]
  refine k3 _ ?_
  refine lm_e182_74 ?_
  unfold lm_q182_74
  repeat (first
    | ((with_reducible apply lm_sI); exact rfl)
    | ((with_reducible apply lm_sR); exact rfl)
    | ((with_reducible apply lm_sS); exact rfl; exact rfl)
    | ((with_reducible apply lm_sL); exact rfl)
    | ((with_reducible apply lm_sP); exact rfl; exact rfl)
    | ((with_reducible apply lm_sPL); exact rfl; exact rfl)
    | ((with_reducible apply lm_sAA); exact rfl; exact rfl)
    | ((with_reducible apply lm_sA); (first | exact rfl | assumption); omega)
    | ((with_reducible apply lm_sJ); (first | exact rfl | assumption); omega)
    | ((with_reducible apply lm_sB); (first | exact rfl | assumption); omega)
    | ((with_reducible apply lm_wA); (first | exact rfl | assumption); omega)
    | ((with_reducible apply lm_wJ); (first | exact rfl | assumption); omega)
    | ((with_reducible apply lm_wB); (first | exact rfl | assumption); omega)
    | ((with_reducible apply lm_sAl); (first | exact rfl | assumption); omega)
    | ((with_reducible apply lm_iW); decide))
  simp only [Nat.reduceDiv, Nat.reduceMod]
  rw [S3.1.1.2.2.2.2.1, lm_K1, lm_oo]
  refine lm_geT (by omega) (by omega) (Nat.le_refl _) ?_
  exact KK
/-- the state before a place is named -/
def lm_SY (W : lm_WT) (m : lm_MI) (n : lm_ML) : Prop := lm_SM W.1 W.2.1 W.2.2.1 m n ∧ lm_A0 (lm_sk W.2.1) (m 195) ∧ ∀ t, t < lm_sn W.2.1 → lm_b8 (m 196 t) = W.2.2.2.1 t
def lm_WL (C : lm_CX) (s : Nat) (P S : Nat → Int32) (k T : Nat) : lm_WT := (C, s, P, S, Int32.ofNat k, Int64.toInt32 (lm_uL (Int64.ofNat T) (Int32.ofInt 32)), Int64.toInt32 (Int64.ofNat T))
theorem lm_SX.y (h : lm_SX W m n) : lm_SY W m n := ⟨h.1, h.2.1.a0, h.2.2⟩
theorem lm_plc {C : lm_CX} {s k T : Nat} {P S : Nat → Int32} {L0 : Int32} {t0 t1 : Int32} (h : lm_SY (C, s, P, S, L0, t0, t1) m n) : ∃ m', lm_cal (lm_sc xs) (d + 2) 193 [.ref 194, .int (Int32.ofNat k), .long (Int64.ofNat T)] (lm_w m n x) = some (.ok none, lm_w m' n x) ∧ (∀ q, q ≠ 195 → m' q = m q) ∧ lm_SX (lm_WL C s P S k T) m' n := by
  obtain ⟨m3, c3, f3, a3⟩ := lm_u193 (sc := lm_sc xs) (d := d) (n := n) (x := x) (s := s) (L := Int32.ofNat k) (T := Int64.ofNat T) h.1.1.1 h.2.1
  exact ⟨m3, c3, f3, h.1.keep (f3 194 (by decide)) (fun r _ _ => f3 r (by omega)) (fun _ _ _ => rfl), a3, fun t ht => by rw [f3 196 (by decide)]; exact h.2.2 t ht⟩
theorem lm_l182 (hC : lm_Cok xs W.1) (hs : W.2.1 ≤ 11) (h : lm_SX W m n) (hp : lm_ar p = some (1, w)) (gp : 22 < p) (gp2 : p < 194 ∨ 202 < p) (hbw : lm_sn W.2.1 + lm_fsz W.2.1 ≤ w) (hw : w ≤ 70000) (hD : ∀ t, t < lm_fb W.2.1 → lm_b8 (m 201 t) = D t) : ∃ m' n', lm_rn (lm_sc xs) (d + 7) lm_m182.2.2.2.2.1 (lm_reg lm_m182.2.2.2.2.2) (22, [(0, .ref 194), (1, .ref p), (2, .int u), (3, .int (Int32.ofNat (lm_sn W.2.1))), (4, .int (Int32.ofNat 0))], []) (lm_w m n x) = some (.ok none, lm_w m' n' x) ∧ lm_SX W m' n' ∧ (∀ r, (r < 5 ∨ 22 < r) → r ≠ 195 → r ≠ 197 → r ≠ 198 → r ≠ 199 → r ≠ 200 → r ≠ p → m' r = m r) ∧ lm_fN m n m' n' ∧ (∀ i, i < lm_sn W.2.1 → m' p i = m p i) ∧ lm_PQw m' p (lm_sn W.2.1) (lm_sf W u D) (lm_fsz W.2.1) ∧ ∀ t, t < lm_sn W.2.1 → lm_b8 (m' 197 t) = lm_hfr W u D (lm_sf W u D) t := by
  have hpar := lm_spar _ hs
  obtain ⟨m1, n1, ⟨i1, i2, i3, i4, i5⟩, k1⟩ := lm_lp (fr := fun j => (22, [(0, .ref 194), (1, .ref p), (2, .int u), (3, .int (Int32.ofNat (lm_sn W.2.1 + j * (lm_sn W.2.1 * (1 + lm_sa W.2.1))))), (4, .int (Int32.ofNat j))], [])) (lm_l182b (u := u) (D := D) (d := d) (x := x) (m0 := m) (n0 := n) hC hs hp gp (by omega) (by omega) (by omega) (by omega) (by omega) hbw hw hD) (ln_sT W.2.1) 0 (Nat.zero_add _) m n ⟨h, fun _ _ _ _ _ _ => rfl, lm_fN.rf, fun _ _ => rfl, fun t ht => absurd ht (by rw [Nat.zero_mul]; omega)⟩
  have i5' : lm_PQw m1 p (lm_sn W.2.1) (lm_sf W u D) (lm_fsz W.2.1) := i5
  obtain ⟨m2, n2, c2, S2, f2, g2, v2⟩ := lm_u265 (d := d) (x := x) (u := u) (D := D) (A := lm_sf W u D) (p := p) (w := w) (b := lm_sn W.2.1) hC hs i1 (fun t ht => by rw [i2 201 (by decide) (by decide) (by decide) (by decide) (by omega)]; exact hD t ht) hp gp (by omega) (by omega) (by omega) (by omega) hbw hw i5'
  have ep : m2 p = m1 p := f2 p (by omega) (by omega) (by omega) (by omega) (by omega)
  refine ⟨m2, n2, ?_, S2, fun r r1 r2 r3 r4 r5 r6 r7 => by rw [f2 r r1 r2 r3 r4 r5, i2 r r1 r2 r5 r6 r7], i3.tr g2, fun i hi => by rw [ep, i4 i hi], fun t ht => by rw [ep]; exact i5' t ht, v2⟩
  clear i5 i5' i4 v2
  rw [Nat.zero_mul, Nat.add_zero] at k1
  refine k1 _ ?_
  refine lm_e182_22 ?_
  unfold lm_q182_22
  repeat (first
    | ((with_reducible apply lm_sI); exact rfl)
    | ((with_reducible apply lm_sR); exact rfl)
    | ((with_reducible apply lm_sS); exact rfl; exact rfl)
    | ((with_reducible apply lm_sL); exact rfl)
    | ((with_reducible apply lm_sP); exact rfl; exact rfl)
    | ((with_reducible apply lm_sPL); exact rfl; exact rfl)
    | ((with_reducible apply lm_sAA); exact rfl; exact rfl)
    | ((with_reducible apply lm_sA); (first | exact rfl | assumption); omega)
    | ((with_reducible apply lm_sJ); (first | exact rfl | assumption); omega)
    | ((with_reducible apply lm_sB); (first | exact rfl | assumption); omega)
    | ((with_reducible apply lm_wA); (first | exact rfl | assumption); omega)
    | ((with_reducible apply lm_wJ); (first | exact rfl | assumption); omega)
    | ((with_reducible apply lm_wB); (first | exact rfl | assumption); omega)
    | ((with_reducible apply lm_sAl); (first | exact rfl | assumption); omega)
    | ((with_reducible apply lm_iW); decide))
  simp only [Nat.reduceDiv, Nat.reduceMod]
  rw [i1.1.1.2.2.2.2.2.1]
  refine lm_geT (by omega) (by omega) (Nat.le_refl _) ?_
  repeat (first
    | ((with_reducible apply lm_sI); exact rfl)
    | ((with_reducible apply lm_sR); exact rfl)
    | ((with_reducible apply lm_sS); exact rfl; exact rfl)
    | ((with_reducible apply lm_sL); exact rfl)
    | ((with_reducible apply lm_sP); exact rfl; exact rfl)
    | ((with_reducible apply lm_sPL); exact rfl; exact rfl)
    | ((with_reducible apply lm_sAA); exact rfl; exact rfl)
    | ((with_reducible apply lm_sA); (first | exact rfl | assumption); omega)
    | ((with_reducible apply lm_sJ); (first | exact rfl | assumption); omega)
    | ((with_reducible apply lm_sB); (first | exact rfl | assumption); omega)
    | ((with_reducible apply lm_wA); (first | exact rfl | assumption); omega)
    | ((with_reducible apply lm_wJ); (first | exact rfl | assumption); omega)
    | ((with_reducible apply lm_wB); (first | exact rfl | assumption); omega)
    | ((with_reducible apply lm_sAl); (first | exact rfl | assumption); omega)
    | ((with_reducible apply lm_iW); decide))
  simp only [Nat.reduceDiv, Nat.reduceMod]
  rw [i1.1.1.2.1]
  exact lm_cV c2 rfl
theorem lm_u182 {C : lm_CX} {s : Nat} {P S : Nat → Int32} {L0 : Int32} {t0 t1 : Int32} (hC : lm_Cok xs C) (hs : s ≤ 11) (h : lm_SY (C, s, P, S, L0, t0, t1) m n) (hp : lm_ar p = some (1, w)) (gp : 22 < p) (gp2 : p < 194 ∨ 202 < p) (hbw : lm_sn s + lm_fsz s ≤ w) (hw : w ≤ 70000) (hD : ∀ t, t < lm_fb s + lm_tB s + lm_lb s → lm_b8 (m 201 t) = D t) : ∃ m' n', lm_cal (lm_sc xs) (d + 8) 182 [.ref 194, .ref p] (lm_w m n x) = some (.ok none, lm_w m' n' x) ∧ lm_SX (lm_WL C s P S 0 (lm_ctn s D)) m' n' ∧ (∀ r, (r < 5 ∨ 22 < r) → r ≠ 195 → r ≠ 197 → r ≠ 198 → r ≠ 199 → r ≠ 200 → r ≠ p → m' r = m r) ∧ lm_fN m n m' n' ∧ (∀ i, i < lm_sn s → m' p i = m p i) ∧ lm_PQw m' p (lm_sn s) (lm_sf (lm_WL C s P S 0 (lm_ctn s D)) (Int32.ofNat (lm_clf s D)) D) (lm_fsz s) ∧ ∀ t, t < lm_sn s → lm_b8 (m' 197 t) = lm_hfr (lm_WL C s P S 0 (lm_ctn s D)) (Int32.ofNat (lm_clf s D)) D (lm_sf (lm_WL C s P S 0 (lm_ctn s D)) (Int32.ofNat (lm_clf s D)) D) t := by
  have c1 := lm_u260 (sc := lm_sc xs) (d := d + 5) (n := n) (x := x) hs h.1.1 hD
  have c2 := lm_u261 (sc := lm_sc xs) (d := d + 5) (n := n) (x := x) hs h.1.1 hD
  obtain ⟨m1, c3, f1, S1⟩ := lm_plc (xs := xs) (d := d + 5) (x := x) (k := 0) (T := lm_ctn s D) h
  obtain ⟨m2, n2, k2, S2, f2, g2, o2, p2, v2⟩ := lm_l182 (d := d) (x := x) (W := lm_WL C s P S 0 (lm_ctn s D)) (u := Int32.ofNat (lm_clf s D)) (D := D) hC hs S1 hp gp gp2 hbw hw (fun t ht => by rw [f1 201 (by decide)]; exact hD t (Nat.lt_of_lt_of_le ht (Nat.le_trans (Nat.le_add_right _ _) (Nat.le_add_right _ _))))
  refine ⟨m2, n2, ?_, S2, fun r r1 r2 r3 r4 r5 r6 r7 => by rw [f2 r r1 r2 r3 r4 r5 r6 r7, f1 r r2], lm_fN.tr (lm_fN.of (f1 11 (by decide)) (f1 17 (by decide))) g2, fun i hi => by rw [o2 i hi, f1 p (by omega)], p2, v2⟩
  clear v2 p2 o2
  refine lm_cal_of (Y := lm_m182) rfl rfl (lm_e182_0 ?_)
  unfold lm_q182_0
  rw [lm_K0]
  repeat (first
    | ((with_reducible apply lm_sI); exact rfl)
    | ((with_reducible apply lm_sR); exact rfl)
    | ((with_reducible apply lm_sS); exact rfl; exact rfl)
    | ((with_reducible apply lm_sL); exact rfl)
    | ((with_reducible apply lm_sP); exact rfl; exact rfl)
    | ((with_reducible apply lm_sPL); exact rfl; exact rfl)
    | ((with_reducible apply lm_sAA); exact rfl; exact rfl)
    | ((with_reducible apply lm_sA); (first | exact rfl | assumption); omega)
    | ((with_reducible apply lm_sJ); (first | exact rfl | assumption); omega)
    | ((with_reducible apply lm_sB); (first | exact rfl | assumption); omega)
    | ((with_reducible apply lm_wA); (first | exact rfl | assumption); omega)
    | ((with_reducible apply lm_wJ); (first | exact rfl | assumption); omega)
    | ((with_reducible apply lm_wB); (first | exact rfl | assumption); omega)
    | ((with_reducible apply lm_sAl); (first | exact rfl | assumption); omega)
    | ((with_reducible apply lm_iW); decide))
  refine lm_cI c1 ?_
  repeat (first
    | ((with_reducible apply lm_sI); exact rfl)
    | ((with_reducible apply lm_sR); exact rfl)
    | ((with_reducible apply lm_sS); exact rfl; exact rfl)
    | ((with_reducible apply lm_sL); exact rfl)
    | ((with_reducible apply lm_sP); exact rfl; exact rfl)
    | ((with_reducible apply lm_sPL); exact rfl; exact rfl)
    | ((with_reducible apply lm_sAA); exact rfl; exact rfl)
    | ((with_reducible apply lm_sA); (first | exact rfl | assumption); omega)
    | ((with_reducible apply lm_sJ); (first | exact rfl | assumption); omega)
    | ((with_reducible apply lm_sB); (first | exact rfl | assumption); omega)
    | ((with_reducible apply lm_wA); (first | exact rfl | assumption); omega)
    | ((with_reducible apply lm_wJ); (first | exact rfl | assumption); omega)
    | ((with_reducible apply lm_wB); (first | exact rfl | assumption); omega)
    | ((with_reducible apply lm_sAl); (first | exact rfl | assumption); omega)
    | ((with_reducible apply lm_iW); decide))
  refine lm_cLg c2 ?_
  repeat (first
    | ((with_reducible apply lm_sI); exact rfl)
    | ((with_reducible apply lm_sR); exact rfl)
    | ((with_reducible apply lm_sS); exact rfl; exact rfl)
    | ((with_reducible apply lm_sL); exact rfl)
    | ((with_reducible apply lm_sP); exact rfl; exact rfl)
    | ((with_reducible apply lm_sPL); exact rfl; exact rfl)
    | ((with_reducible apply lm_sAA); exact rfl; exact rfl)
    | ((with_reducible apply lm_sA); (first | exact rfl | assumption); omega)
    | ((with_reducible apply lm_sJ); (first | exact rfl | assumption); omega)
    | ((with_reducible apply lm_sB); (first | exact rfl | assumption); omega)
    | ((with_reducible apply lm_wA); (first | exact rfl | assumption); omega)
    | ((with_reducible apply lm_wJ); (first | exact rfl | assumption); omega)
    | ((with_reducible apply lm_wB); (first | exact rfl | assumption); omega)
    | ((with_reducible apply lm_sAl); (first | exact rfl | assumption); omega)
    | ((with_reducible apply lm_iW); decide))
  refine lm_cV c3 ?_
  simp only [Nat.reduceDiv, Nat.reduceMod]
  rw [h.1.1.2.1]
  exact k2
end LMTI
