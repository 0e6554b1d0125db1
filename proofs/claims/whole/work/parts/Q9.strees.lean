/-! ===== SLH of the class: the trees are signed ===== -/
/-- the bytes that a tree signs with -/
def lm_slb (W : lm_WT) (I : Nat) (V : Nat → Int32) (t : Nat) : Int32 := if t / lm_sn W.2.1 < lm_cw W.2.1 then lm_hsg W (Int32.ofNat I) V t else lm_hnd W false (Int32.ofNat 0) (t / lm_sn W.2.1 - lm_cw W.2.1) (I / 2 ^ (t / lm_sn W.2.1 - lm_cw W.2.1) ^^^ 1) (t % lm_sn W.2.1)
theorem lm_slb_0 {W : lm_WT} {I : Nat} {V : Nat → Int32} {t : Nat} (hn : 0 < lm_sn W.2.1) (ht : t < lm_cw W.2.1 * lm_sn W.2.1) : lm_slb W I V t = lm_hsg W (Int32.ofNat I) V t := by
  unfold lm_slb
  rw [if_pos ((Nat.div_lt_iff_lt_mul hn).mpr ht)]
theorem lm_slb_1 {W : lm_WT} {I j i : Nat} {V : Nat → Int32} (hi : i < lm_sn W.2.1) : lm_slb W I V ((lm_cw W.2.1 + j) * lm_sn W.2.1 + i) = lm_hnd W false (Int32.ofNat 0) j (I / 2 ^ j ^^^ 1) i := by
  have h := lm_dmn (j := lm_cw W.2.1 + j) hi
  unfold lm_slb
  rw [h.1, h.2, if_neg (by omega), Nat.add_sub_cancel_left]
section LMTJ
variable {xs : List Int32} {d : Nat} {W : lm_WT} {m m' : lm_MI} {n n' : lm_ML} {x : lm_H × Nat × Nat} {V : Nat → Int32} {T : Int64} {p w b I k : Nat}
def lm_f53 (T : Int64) (p I b k j : Nat) : lm_F := (53, [(0, .ref 194), (1, .ref p), (2, .long T), (4, .int (Int32.ofNat I)), (5, .int (Int32.ofNat b)), (6, .int (Int32.ofNat k)), (7, .int (Int32.ofNat j))], [])
def lm_I183 (W : lm_WT) (F : Nat → Int32) (p b : Nat) (m0 : lm_MI) (n0 : lm_ML) (j : Nat) (m : lm_MI) (n : lm_ML) : Prop := lm_SX W m n ∧ (∀ r, (r < 5 ∨ 22 < r) → r ≠ 195 → r ≠ 199 → r ≠ 200 → r ≠ p → m r = m0 r) ∧ lm_fN m0 n0 m n ∧ (∀ i, i < b → m p i = m0 p i) ∧ lm_PQw m p b F ((lm_cw W.2.1 + j) * lm_sn W.2.1)
theorem lm_l183a (hC : lm_Cok xs W.1) (hs : W.2.1 ≤ 11) {m0 : lm_MI} {n0 : lm_ML} (hp : lm_ar p = some (1, w)) (gp : 22 < p) (gp2 : p < 194 ∨ 202 < p) (hbw : b + (lm_cw W.2.1 + lm_sh W.2.1) * lm_sn W.2.1 ≤ w) (hw : w ≤ 70000) (hI : I < 512) : ∀ j, j < lm_sh W.2.1 → ∀ m n, lm_I183 W (lm_slb W I V) p b m0 n0 j m n → ∃ m' n', lm_I183 W (lm_slb W I V) p b m0 n0 (j + 1) m' n' ∧ ∀ R, lm_rn (lm_sc xs) (d + 7) lm_m183.2.2.2.2.1 (lm_reg lm_m183.2.2.2.2.2) (lm_f53 T p I b k (j + 1)) (lm_w m' n' x) = some R → lm_rn (lm_sc xs) (d + 7) lm_m183.2.2.2.2.1 (lm_reg lm_m183.2.2.2.2.2) (lm_f53 T p I b k j) (lm_w m n x) = some R := by
  intro j hj m n ⟨i1, i2, i3, i4, i5⟩
  have hpar := lm_spar _ hs
  have hx := lm_xor1_b (a := I) (z := j) (by omega) (by omega)
  have hd : I / 2 ^ j < 1048576 := Nat.lt_of_le_of_lt (Nat.div_le_self _ _) (by omega)
  have hjn : (lm_cw W.2.1 + j) * lm_sn W.2.1 + lm_sn W.2.1 ≤ (lm_cw W.2.1 + lm_sh W.2.1) * lm_sn W.2.1 := by rw [← Nat.succ_mul]; exact Nat.mul_le_mul_right _ (by omega)
  obtain ⟨m1, n1, c1, f1, g1, S1, o1, v1⟩ := lm_u194 (d := d) (x := x) (fo := false) (u := Int32.ofNat 0) (z := j) (i := I / 2 ^ j ^^^ 1) (p := p) (w := w) (b := b + (lm_cw W.2.1 + j) * lm_sn W.2.1) hC hs i1 (by omega) hx.2 hp gp (by omega) (by omega) (by omega) (by omega) (by omega) hw
  have ek : (lm_cw W.2.1 + (j + 1)) * lm_sn W.2.1 = (lm_cw W.2.1 + j) * lm_sn W.2.1 + lm_sn W.2.1 := by rw [← Nat.succ_mul]; rfl
  refine ⟨m1, n1, ⟨S1, fun r r1 r2 r3 r4 r5 => by rw [f1 r r1 r2 r3 r4 r5, i2 r r1 r2 r3 r4 r5], i3.tr g1, fun i hi => by rw [o1 i (by omega), i4 i hi], ?_⟩, fun R KK => ?_⟩
  · rw [ek]
    exact i5.ap o1 (fun i hi => by rw [v1 i hi, lm_slb_1 hi])
  · clear v1 o1 i4 i5
    unfold lm_f53 at KK ⊢
    refine lm_e183_53 ?_
    unfold lm_q183_53
    rw [lm_K0, lm_K1, lm_K2, lm_oo, lm_oo, lm_srN (a := I) (b := j) (by omega) (by omega), lm_xor1 hd]
    repeat (first
    | ((with_reducible apply lm_sI); exact rfl)
    | ((with_reducible apply lm_sR); exact rfl)
    | ((with_reducible apply lm_sS); exact rfl; exact rfl)
    | ((with_reducible apply lm_sL); exact rfl)
    | ((with_reducible apply lm_sP); exact rfl; exact rfl)
    | ((with_reducible apply lm_sPL); exact rfl; exact rfl)
    | ((with_reducible apply lm_sAA); exact rfl; exact rfl)
    | ((with_reducible apply lm_sA); (first | exact rfl | assumption); omega)
    | ((with_reducible apply lm_sJ); (first | exact rfl | assumption); omega)
    | ((with_reducible apply lm_sB); (first | exact rfl | assumption); omega)
    | ((with_reducible apply lm_wA); (first | exact rfl | assumption); omega)
    | ((with_reducible apply lm_wJ); (first | exact rfl | assumption); omega)
    | ((with_reducible apply lm_wB); (first | exact rfl | assumption); omega)
    | ((with_reducible apply lm_sAl); (first | exact rfl | assumption); omega)
    | ((with_reducible apply lm_iW); decide))
    simp only [Nat.reduceDiv, Nat.reduceMod]
    rw [i1.1.1.2.2.2.1]
    refine lm_geF (by omega) (by omega) (by omega) ?_
    repeat (first
    | ((with_reducible apply lm_sI); exact rfl)
    | ((with_reducible apply lm_sR); exact rfl)
    | ((with_reducible apply lm_sS); exact rfl; exact rfl)
    | ((with_reducible apply lm_sL); exact rfl)
    | ((with_reducible apply lm_sP); exact rfl; exact rfl)
    | ((with_reducible apply lm_sPL); exact rfl; exact rfl)
    | ((with_reducible apply lm_sAA); exact rfl; exact rfl)
    | ((with_reducible apply lm_sA); (first | exact rfl | assumption); omega)
    | ((with_reducible apply lm_sJ); (first | exact rfl | assumption); omega)
    | ((with_reducible apply lm_sB); (first | exact rfl | assumption); omega)
    | ((with_reducible apply lm_wA); (first | exact rfl | assumption); omega)
    | ((with_reducible apply lm_wJ); (first | exact rfl | assumption); omega)
    | ((with_reducible apply lm_wB); (first | exact rfl | assumption); omega)
    | ((with_reducible apply lm_sAl); (first | exact rfl | assumption); omega)
    | ((with_reducible apply lm_iW); decide))
    simp only [Nat.reduceDiv, Nat.reduceMod]
    rw [i1.1.1.2.2.2.2.2.2.1, i1.1.1.2.1, lm_oo, lm_om, lm_oo]
    refine lm_cV c1 ?_
    exact KK
/-- one tree -/
theorem lm_l183w (hC : lm_Cok xs W.1) (hs : W.2.1 ≤ 11) (h : lm_SX W m n) (hV : ∀ t, t < lm_sn W.2.1 → lm_b8 (m 197 t) = V t) (hp : lm_ar p = some (1, w)) (gp : 22 < p) (gp2 : p < 194 ∨ 202 < p) (hbw : b + (lm_cw W.2.1 + lm_sh W.2.1) * lm_sn W.2.1 ≤ w) (hw : w ≤ 70000) (hI : I < 512) : ∃ m' n', lm_SX W m' n' ∧ (∀ r, (r < 5 ∨ 22 < r) → r ≠ 195 → r ≠ 197 → r ≠ 198 → r ≠ 199 → r ≠ 200 → r ≠ 202 → r ≠ p → m' r = m r) ∧ lm_fN m n m' n' ∧ (∀ i, i < b → m' p i = m p i) ∧ lm_PQw m' p b (lm_slb W I V) ((lm_cw W.2.1 + lm_sh W.2.1) * lm_sn W.2.1) ∧ (∀ t, t < lm_sn W.2.1 → lm_b8 (m' 197 t) = lm_hrt W I (lm_slb W I V) V t) ∧ ∀ R, (lm_bind (lm_gI 4024 194) fun v3 => lm_bind (lm_gI 4024 194) fun v4 => lm_bind (lm_sel [(10, 269)] (some (.ref 194))) fun y5 => lm_bind (lm_asI (lm_cal (lm_sc xs) (d + 7) y5 [.ref 194])) fun v6 => lm_rn (lm_sc xs) (d + 7) lm_m183.2.2.2.2.1 (lm_reg lm_m183.2.2.2.2.2) (25, [(0, .ref 194), (1, .ref p), (2, .long (lm_uL T v4)), (4, .int ((Int64.toInt32 T) &&& (((Int32.ofInt 1) <<< (v3 &&& 31)) - (Int32.ofInt 1)))), (5, .int (Int32.ofNat b + v6)), (6, .int (Int32.ofNat k + Int32.ofInt 1))], [])) (lm_w m' n' x) = some R → (lm_bind (lm_sel [(10, 267)] (some (.ref 194))) fun y3 => lm_bind (lm_asV (lm_cal (lm_sc xs) (d + 7) y3 [.ref 194, .int (Int32.ofNat I), .ref p, .int (Int32.ofNat b)])) fun _ => lm_rn (lm_sc xs) (d + 7) lm_m183.2.2.2.2.1 (lm_reg lm_m183.2.2.2.2.2) (53, [(0, .ref 194), (1, .ref p), (2, .long T), (4, .int (Int32.ofNat I)), (5, .int (Int32.ofNat b)), (6, .int (Int32.ofNat k)), (7, .int (Int32.ofInt 0))], [])) (lm_w m n x) = some R := by
  have hpar := lm_spar _ hs
  have hadd : (lm_cw W.2.1 + lm_sh W.2.1) * lm_sn W.2.1 = lm_cw W.2.1 * lm_sn W.2.1 + lm_sh W.2.1 * lm_sn W.2.1 := Nat.add_mul ..
  obtain ⟨m1, n1, c1, S1, f1, g1, o1, v1⟩ := lm_u267 (d := d + 1) (x := x) (u := Int32.ofNat I) (p := p) (w := w) (b := b) hC hs h hV hp gp (by omega) (by omega) (by omega) (by omega) hw
  obtain ⟨m2, n2, ⟨i1, i2, i3, i4, i5⟩, k2⟩ := lm_lp (fr := lm_f53 T p I b k) (lm_l183a (V := V) (T := T) (k := k) (d := d) (x := x) (m0 := m1) (n0 := n1) hC hs hp gp gp2 hbw hw hI) (lm_sh W.2.1) 0 (Nat.zero_add _) m1 n1 ⟨S1, fun _ _ _ _ _ _ => rfl, lm_fN.rf, fun _ _ => rfl, fun t ht => by
    rw [Nat.add_zero] at ht
    rw [v1 t ht, lm_slb_0 (by omega) ht]⟩
  obtain ⟨m3, n3, c3, S3, f3, g3, v3⟩ := lm_u268 (d := d) (x := x) (V := V) (A := lm_slb W I V) (I := I) (p := p) (w := w) (b := b) hC hs i1 (fun t ht => by rw [i2 197 (by decide) (by decide) (by decide) (by decide) (by omega), f1 197 (by decide) (by decide) (by decide) (by omega)]; exact hV t ht) (by omega) hp gp (by omega) (by omega) (by omega) (by omega) (by omega) hbw hw i5
  have ep : m3 p = m2 p := f3 p (by omega) (by omega) (by omega) (by omega) (by omega) (by omega)
  refine ⟨m3, n3, S3, fun r r1 r2 r3 r4 r5 r6 r7 r8 => by rw [f3 r r1 r2 r3 r4 r5 r7, i2 r r1 r2 r5 r6 r8, f1 r r1 r2 r7 r8], g1.tr (i3.tr g3), fun i hi => by rw [ep, i4 i hi, o1 i (by omega)], fun t ht => by rw [ep]; exact i5 t ht, v3, fun R KK => ?_⟩
  clear v1 v3 i5 i4 o1 hV
  repeat (first
    | ((with_reducible apply lm_sI); exact rfl)
    | ((with_reducible apply lm_sR); exact rfl)
    | ((with_reducible apply lm_sS); exact rfl; exact rfl)
    | ((with_reducible apply lm_sL); exact rfl)
    | ((with_reducible apply lm_sP); exact rfl; exact rfl)
    | ((with_reducible apply lm_sPL); exact rfl; exact rfl)
    | ((with_reducible apply lm_sAA); exact rfl; exact rfl)
    | ((with_reducible apply lm_sA); (first | exact rfl | assumption); omega)
    | ((with_reducible apply lm_sJ); (first | exact rfl | assumption); omega)
    | ((with_reducible apply lm_sB); (first | exact rfl | assumption); omega)
    | ((with_reducible apply lm_wA); (first | exact rfl | assumption); omega)
    | ((with_reducible apply lm_wJ); (first | exact rfl | assumption); omega)
    | ((with_reducible apply lm_wB); (first | exact rfl | assumption); omega)
    | ((with_reducible apply lm_sAl); (first | exact rfl | assumption); omega)
    | ((with_reducible apply lm_iW); decide))
  refine lm_cV c1 ?_
  rw [lm_K0]
  refine k2 R ?_
  unfold lm_f53
  refine lm_e183_53 ?_
  unfold lm_q183_53
  repeat (first
    | ((with_reducible apply lm_sI); exact rfl)
    | ((with_reducible apply lm_sR); exact rfl)
    | ((with_reducible apply lm_sS); exact rfl; exact rfl)
    | ((with_reducible apply lm_sL); exact rfl)
    | ((with_reducible apply lm_sP); exact rfl; exact rfl)
    | ((with_reducible apply lm_sPL); exact rfl; exact rfl)
    | ((with_reducible apply lm_sAA); exact rfl; exact rfl)
    | ((with_reducible apply lm_sA); (first | exact rfl | assumption); omega)
    | ((with_reducible apply lm_sJ); (first | exact rfl | assumption); omega)
    | ((with_reducible apply lm_sB); (first | exact rfl | assumption); omega)
    | ((with_reducible apply lm_wA); (first | exact rfl | assumption); omega)
    | ((with_reducible apply lm_wJ); (first | exact rfl | assumption); omega)
    | ((with_reducible apply lm_wB); (first | exact rfl | assumption); omega)
    | ((with_reducible apply lm_sAl); (first | exact rfl | assumption); omega)
    | ((with_reducible apply lm_iW); decide))
  simp only [Nat.reduceDiv, Nat.reduceMod]
  rw [i1.1.1.2.2.2.1]
  refine lm_geT (by omega) (by omega) (Nat.le_refl _) ?_
  repeat (first
    | ((with_reducible apply lm_sI); exact rfl)
    | ((with_reducible apply lm_sR); exact rfl)
    | ((with_reducible apply lm_sS); exact rfl; exact rfl)
    | ((with_reducible apply lm_sL); exact rfl)
    | ((with_reducible apply lm_sP); exact rfl; exact rfl)
    | ((with_reducible apply lm_sPL); exact rfl; exact rfl)
    | ((with_reducible apply lm_sAA); exact rfl; exact rfl)
    | ((with_reducible apply lm_sA); (first | exact rfl | assumption); omega)
    | ((with_reducible apply lm_sJ); (first | exact rfl | assumption); omega)
    | ((with_reducible apply lm_sB); (first | exact rfl | assumption); omega)
    | ((with_reducible apply lm_wA); (first | exact rfl | assumption); omega)
    | ((with_reducible apply lm_wJ); (first | exact rfl | assumption); omega)
    | ((with_reducible apply lm_wB); (first | exact rfl | assumption); omega)
    | ((with_reducible apply lm_sAl); (first | exact rfl | assumption); omega)
    | ((with_reducible apply lm_iW); decide))
  refine lm_cV c3 ?_
  exact KK
end LMTJ
/-! all trees -/
def lm_tri (s T0 : Nat) : Nat → Nat
  | 0 => T0
  | k + 1 => lm_tri s T0 k / 2 ^ lm_sh s
def lm_lfi (s T0 l0 : Nat) : Nat → Nat
  | 0 => l0
  | k + 1 => lm_tri s T0 k % 2 ^ lm_sh s
theorem lm_tri_lt {s T0 : Nat} (h : T0 < 18446744073709551616) : ∀ k, lm_tri s T0 k < 18446744073709551616 := by
  intro k
  induction k with
  | zero => exact h
  | succ k ih => exact Nat.lt_of_le_of_lt (Nat.div_le_self _ _) ih
theorem lm_lfi_lt {s T0 l0 : Nat} (hs : s ≤ 11) (h : l0 < 512) : ∀ k, lm_lfi s T0 l0 k < 512 := by
  intro k
  cases k with
  | zero => exact h
  | succ k => exact Nat.lt_of_lt_of_le (Nat.mod_lt _ (Nat.two_pow_pos _)) (lm_sh2p hs)
def lm_vk (C : lm_CX) (s : Nat) (P S : Nat → Int32) (T0 l0 : Nat) (V0 : Nat → Int32) : Nat → Nat → Int32
  | 0 => V0
  | k + 1 => lm_hrt (lm_WL C s P S k (lm_tri s T0 k)) (lm_lfi s T0 l0 k) (lm_slb (lm_WL C s P S k (lm_tri s T0 k)) (lm_lfi s T0 l0 k) (lm_vk C s P S T0 l0 V0 k)) (lm_vk C s P S T0 l0 V0 k)
def lm_stb (C : lm_CX) (s : Nat) (P S : Nat → Int32) (T0 l0 : Nat) (V0 : Nat → Int32) (t : Nat) : Int32 := lm_slb (lm_WL C s P S (t / lm_lsz s) (lm_tri s T0 (t / lm_lsz s))) (lm_lfi s T0 l0 (t / lm_lsz s)) (lm_vk C s P S T0 l0 V0 (t / lm_lsz s)) (t % lm_lsz s)
section LMTK
variable {xs : List Int32} {C : lm_CX} {d s : Nat} {P S V0 : Nat → Int32} {m m' : lm_MI} {n n' : lm_ML} {x : lm_H × Nat × Nat} {p w b T0 l0 : Nat} {D : Nat → Int32}
def lm_J183 (C : lm_CX) (s : Nat) (P S : Nat → Int32) (T0 l0 : Nat) (V0 : Nat → Int32) (p b : Nat) (m0 : lm_MI) (n0 : lm_ML) (k : Nat) (m : lm_MI) (n : lm_ML) : Prop := lm_SY (C, s, P, S, 0, 0, 0) m n ∧ (∀ r, (r < 5 ∨ 22 < r) → r ≠ 195 → r ≠ 197 → r ≠ 198 → r ≠ 199 → r ≠ 200 → r ≠ 202 → r ≠ p → m r = m0 r) ∧ lm_fN m0 n0 m n ∧ (∀ i, i < b → m p i = m0 p i) ∧ lm_PQw m p b (lm_stb C s P S T0 l0 V0) (k * lm_lsz s) ∧ ∀ t, t < lm_sn s → lm_b8 (m 197 t) = lm_vk C s P S T0 l0 V0 k t
theorem lm_l183b (hC : lm_Cok xs C) (hs : s ≤ 11) {m0 : lm_MI} {n0 : lm_ML} (hp : lm_ar p = some (1, w)) (gp : 22 < p) (gp2 : p < 194 ∨ 202 < p) (hbw : b + lm_sd s * lm_lsz s ≤ w) (hw : w ≤ 70000) (hT : T0 < 18446744073709551616) (hl : l0 < 512) : ∀ k, k < lm_sd s → ∀ m n, lm_J183 C s P S T0 l0 V0 p b m0 n0 k m n → ∃ m' n', lm_J183 C s P S T0 l0 V0 p b m0 n0 (k + 1) m' n' ∧ ∀ R, lm_rn (lm_sc xs) (d + 7) lm_m183.2.2.2.2.1 (lm_reg lm_m183.2.2.2.2.2) (25, [(0, .ref 194), (1, .ref p), (2, .long (Int64.ofNat (lm_tri s T0 (k + 1)))), (4, .int (Int32.ofNat (lm_lfi s T0 l0 (k + 1)))), (5, .int (Int32.ofNat (b + (k + 1) * lm_lsz s))), (6, .int (Int32.ofNat (k + 1)))], []) (lm_w m' n' x) = some R → lm_rn (lm_sc xs) (d + 7) lm_m183.2.2.2.2.1 (lm_reg lm_m183.2.2.2.2.2) (25, [(0, .ref 194), (1, .ref p), (2, .long (Int64.ofNat (lm_tri s T0 k))), (4, .int (Int32.ofNat (lm_lfi s T0 l0 k))), (5, .int (Int32.ofNat (b + k * lm_lsz s))), (6, .int (Int32.ofNat k))], []) (lm_w m n x) = some R := by
  intro k hk m n ⟨i1, i2, i3, i4, i5, i6⟩
  have hpar := lm_spar s hs
  have hlz : lm_lsz s = (lm_cw s + lm_sh s) * lm_sn s := Nat.mul_comm ..
  have hk2 : k * lm_lsz s + lm_lsz s ≤ lm_sd s * lm_lsz s := by rw [← Nat.succ_mul]; exact Nat.mul_le_mul_right _ hk
  have hT' := lm_tri_lt (s := s) hT k
  have hl' := lm_lfi_lt (s := s) (T0 := T0) hs hl k
  obtain ⟨m1, c1, f1, S1⟩ := lm_plc (xs := xs) (d := d + 5) (x := x) (k := k) (T := lm_tri s T0 k) i1
  obtain ⟨m2, n2, S2, f2, g2, o2, p2, v2, k2⟩ := lm_l183w (xs := xs) (d := d) (x := x) (W := lm_WL C s P S k (lm_tri s T0 k)) (V := lm_vk C s P S T0 l0 V0 k) (T := Int64.ofNat (lm_tri s T0 k)) (p := p) (w := w) (b := b + k * lm_lsz s) (I := lm_lfi s T0 l0 k) (k := k) hC hs S1 (fun t ht => by rw [f1 197 (by decide)]; exact i6 t ht) hp gp gp2 (show b + k * lm_lsz s + (lm_cw s + lm_sh s) * lm_sn s ≤ w by omega) hw hl'
  have S2y : lm_SY (C, s, P, S, 0, 0, 0) m2 n2 := S2.y
  have p2' : lm_PQw m2 p (b + k * lm_lsz s) (lm_slb (lm_WL C s P S k (lm_tri s T0 k)) (lm_lfi s T0 l0 k) (lm_vk C s P S T0 l0 V0 k)) (lm_lsz s) := fun t ht => p2 t (by show t < (lm_cw s + lm_sh s) * lm_sn s; rw [← hlz]; exact ht)
  refine ⟨m2, n2, ⟨S2y, fun r r1 r2 r3 r4 r5 r6 r7 r8 => by rw [f2 r r1 r2 r3 r4 r5 r6 r7 r8, f1 r r2, i2 r r1 r2 r3 r4 r5 r6 r7 r8], i3.tr (lm_fN.tr (lm_fN.of (f1 11 (by decide)) (f1 17 (by decide))) g2), fun i hi => by rw [o2 i (by omega), f1 p (by omega), i4 i hi], fun t ht => ?_, v2⟩, fun R KK => ?_⟩
  · rw [Nat.succ_mul] at ht
    by_cases c : t < k * lm_lsz s
    · rw [o2 _ (by omega), f1 p (by omega)]
      exact i5 t c
    · obtain ⟨i, rfl⟩ : ∃ i, t = k * lm_lsz s + i := ⟨t - k * lm_lsz s, by omega⟩
      have hi : i < lm_lsz s := by omega
      rw [← Nat.add_assoc, p2' i hi]
      unfold lm_stb
      rw [(lm_dmn hi).1, (lm_dmn hi).2]
  · have u9 := lm_u269 (sc := lm_sc xs) (d := d + 6) (n := n2) (x := x) S2y.1.1
    have e6 : m2 194 6 = Int32.ofNat (lm_sh s) := S2y.1.1.2.2.2.1
    have e5 : m 194 5 = Int32.ofNat (lm_sd s) := i1.1.1.2.2.1
    clear p2 p2' v2 o2 i4 i5 i6
    refine lm_e183_25 ?_
    unfold lm_q183_25
    repeat (first
    | ((with_reducible apply lm_sI); exact rfl)
    | ((with_reducible apply lm_sR); exact rfl)
    | ((with_reducible apply lm_sS); exact rfl; exact rfl)
    | ((with_reducible apply lm_sL); exact rfl)
    | ((with_reducible apply lm_sP); exact rfl; exact rfl)
    | ((with_reducible apply lm_sPL); exact rfl; exact rfl)
    | ((with_reducible apply lm_sAA); exact rfl; exact rfl)
    | ((with_reducible apply lm_sA); (first | exact rfl | assumption); omega)
    | ((with_reducible apply lm_sJ); (first | exact rfl | assumption); omega)
    | ((with_reducible apply lm_sB); (first | exact rfl | assumption); omega)
    | ((with_reducible apply lm_wA); (first | exact rfl | assumption); omega)
    | ((with_reducible apply lm_wJ); (first | exact rfl | assumption); omega)
    | ((with_reducible apply lm_wB); (first | exact rfl | assumption); omega)
    | ((with_reducible apply lm_sAl); (first | exact rfl | assumption); omega)
    | ((with_reducible apply lm_iW); decide))
    simp only [Nat.reduceDiv, Nat.reduceMod]
    rw [e5]
    refine lm_geF (by omega) (by omega) (by omega) ?_
    repeat (first
    | ((with_reducible apply lm_sI); exact rfl)
    | ((with_reducible apply lm_sR); exact rfl)
    | ((with_reducible apply lm_sS); exact rfl; exact rfl)
    | ((with_reducible apply lm_sL); exact rfl)
    | ((with_reducible apply lm_sP); exact rfl; exact rfl)
    | ((with_reducible apply lm_sPL); exact rfl; exact rfl)
    | ((with_reducible apply lm_sAA); exact rfl; exact rfl)
    | ((with_reducible apply lm_sA); (first | exact rfl | assumption); omega)
    | ((with_reducible apply lm_sJ); (first | exact rfl | assumption); omega)
    | ((with_reducible apply lm_sB); (first | exact rfl | assumption); omega)
    | ((with_reducible apply lm_wA); (first | exact rfl | assumption); omega)
    | ((with_reducible apply lm_wJ); (first | exact rfl | assumption); omega)
    | ((with_reducible apply lm_wB); (first | exact rfl | assumption); omega)
    | ((with_reducible apply lm_sAl); (first | exact rfl | assumption); omega)
    | ((with_reducible apply lm_iW); decide))
    refine lm_cV c1 ?_
    refine k2 R ?_
    repeat (first
    | ((with_reducible apply lm_sI); exact rfl)
    | ((with_reducible apply lm_sR); exact rfl)
    | ((with_reducible apply lm_sS); exact rfl; exact rfl)
    | ((with_reducible apply lm_sL); exact rfl)
    | ((with_reducible apply lm_sP); exact rfl; exact rfl)
    | ((with_reducible apply lm_sPL); exact rfl; exact rfl)
    | ((with_reducible apply lm_sAA); exact rfl; exact rfl)
    | ((with_reducible apply lm_sA); (first | exact rfl | assumption); omega)
    | ((with_reducible apply lm_sJ); (first | exact rfl | assumption); omega)
    | ((with_reducible apply lm_sB); (first | exact rfl | assumption); omega)
    | ((with_reducible apply lm_wA); (first | exact rfl | assumption); omega)
    | ((with_reducible apply lm_wJ); (first | exact rfl | assumption); omega)
    | ((with_reducible apply lm_wB); (first | exact rfl | assumption); omega)
    | ((with_reducible apply lm_sAl); (first | exact rfl | assumption); omega)
    | ((with_reducible apply lm_iW); decide))
    refine lm_cI u9 ?_
    simp only [Nat.reduceDiv, Nat.reduceMod]
    rw [e6, lm_uLn hT' (by omega), lm_l2i, lm_msk (by omega), lm_andM (by omega), lm_K1, lm_oo, lm_oo, Nat.add_assoc, ← Nat.succ_mul]
    exact KK
theorem lm_u183 (hC : lm_Cok xs C) (hs : s ≤ 11) {L0 t0 t1 : Int32} (h : lm_SY (C, s, P, S, L0, t0, t1) m n) (hV : ∀ t, t < lm_sn s → lm_b8 (m 197 t) = V0 t) (hp : lm_ar p = some (1, w)) (gp : 22 < p) (gp2 : p < 194 ∨ 202 < p) (hbw : lm_psz s ≤ w) (hw : w ≤ 70000) (hD : ∀ t, t < lm_fb s + lm_tB s + lm_lb s → lm_b8 (m 201 t) = D t) : ∃ m' n', lm_cal (lm_sc xs) (d + 8) 183 [.ref 194, .ref p] (lm_w m n x) = some (.ok none, lm_w m' n' x) ∧ lm_SY (C, s, P, S, 0, 0, 0) m' n' ∧ (∀ r, (r < 5 ∨ 22 < r) → r ≠ 195 → r ≠ 197 → r ≠ 198 → r ≠ 199 → r ≠ 200 → r ≠ 202 → r ≠ p → m' r = m r) ∧ lm_fN m n m' n' ∧ (∀ i, i < lm_sn s + lm_fsz s → m' p i = m p i) ∧ lm_PQw m' p (lm_sn s + lm_fsz s) (lm_stb C s P S (lm_ctn s D) (lm_clf s D) V0) (lm_sd s * lm_lsz s) := by
  have c1 := lm_u260 (sc := lm_sc xs) (d := d + 5) (n := n) (x := x) hs h.1.1 hD
  have c2 := lm_u261 (sc := lm_sc xs) (d := d + 5) (n := n) (x := x) hs h.1.1 hD
  have c3 := lm_u266 (sc := lm_sc xs) (d := d + 6) (n := n) (x := x) h.1.1
  have hpar := lm_spar s hs
  unfold lm_psz at hbw
  obtain ⟨m1, n1, ⟨i1, i2, i3, i4, i5, i6⟩, k1⟩ := lm_lp (fr := fun k => (25, [(0, .ref 194), (1, .ref p), (2, .long (Int64.ofNat (lm_tri s (lm_ctn s D) k))), (4, .int (Int32.ofNat (lm_lfi s (lm_ctn s D) (lm_clf s D) k))), (5, .int (Int32.ofNat (lm_sn s + lm_fsz s + k * lm_lsz s))), (6, .int (Int32.ofNat k))], [])) (lm_l183b (P := P) (S := S) (V0 := V0) (d := d) (x := x) (m0 := m) (n0 := n) hC hs hp gp gp2 hbw hw (lm_ctn_lt hs) (lm_clf_lt hs)) (lm_sd s) 0 (Nat.zero_add _) m n ⟨h, fun _ _ _ _ _ _ _ _ _ => rfl, lm_fN.rf, fun _ _ => rfl, fun t ht => absurd ht (by rw [Nat.zero_mul]; omega), hV⟩
  refine ⟨m1, n1, ?_, i1, i2, i3, i4, i5⟩
  clear i5 i6 i4 hV
  rw [Nat.zero_mul, Nat.add_zero] at k1
  refine lm_cal_of (Y := lm_m183) rfl rfl (lm_e183_0 ?_)
  unfold lm_q183_0
  rw [lm_K0]
  repeat (first
    | ((with_reducible apply lm_sI); exact rfl)
    | ((with_reducible apply lm_sR); exact rfl)
    | ((with_reducible apply lm_sS); exact rfl; exact rfl)
    | ((with_reducible apply lm_sL); exact rfl)
    | ((with_reducible apply lm_sP); exact rfl; exact rfl)
    | ((with_reducible apply lm_sPL); exact rfl; exact rfl)
    | ((with_reducible apply lm_sAA); exact rfl; exact rfl)
    | ((with_reducible apply lm_sA); (first | exact rfl | assumption); omega)
    | ((with_reducible apply lm_sJ); (first | exact rfl | assumption); omega)
    | ((with_reducible apply lm_sB); (first | exact rfl | assumption); omega)
    | ((with_reducible apply lm_wA); (first | exact rfl | assumption); omega)
    | ((with_reducible apply lm_wJ); (first | exact rfl | assumption); omega)
    | ((with_reducible apply lm_wB); (first | exact rfl | assumption); omega)
    | ((with_reducible apply lm_sAl); (first | exact rfl | assumption); omega)
    | ((with_reducible apply lm_iW); decide))
  refine lm_cLg c2 ?_
  repeat (first
    | ((with_reducible apply lm_sI); exact rfl)
    | ((with_reducible apply lm_sR); exact rfl)
    | ((with_reducible apply lm_sS); exact rfl; exact rfl)
    | ((with_reducible apply lm_sL); exact rfl)
    | ((with_reducible apply lm_sP); exact rfl; exact rfl)
    | ((with_reducible apply lm_sPL); exact rfl; exact rfl)
    | ((with_reducible apply lm_sAA); exact rfl; exact rfl)
    | ((with_reducible apply lm_sA); (first | exact rfl | assumption); omega)
    | ((with_reducible apply lm_sJ); (first | exact rfl | assumption); omega)
    | ((with_reducible apply lm_sB); (first | exact rfl | assumption); omega)
    | ((with_reducible apply lm_wA); (first | exact rfl | assumption); omega)
    | ((with_reducible apply lm_wJ); (first | exact rfl | assumption); omega)
    | ((with_reducible apply lm_wB); (first | exact rfl | assumption); omega)
    | ((with_reducible apply lm_sAl); (first | exact rfl | assumption); omega)
    | ((with_reducible apply lm_iW); decide))
  refine lm_cI c1 ?_
  repeat (first
    | ((with_reducible apply lm_sI); exact rfl)
    | ((with_reducible apply lm_sR); exact rfl)
    | ((with_reducible apply lm_sS); exact rfl; exact rfl)
    | ((with_reducible apply lm_sL); exact rfl)
    | ((with_reducible apply lm_sP); exact rfl; exact rfl)
    | ((with_reducible apply lm_sPL); exact rfl; exact rfl)
    | ((with_reducible apply lm_sAA); exact rfl; exact rfl)
    | ((with_reducible apply lm_sA); (first | exact rfl | assumption); omega)
    | ((with_reducible apply lm_sJ); (first | exact rfl | assumption); omega)
    | ((with_reducible apply lm_sB); (first | exact rfl | assumption); omega)
    | ((with_reducible apply lm_wA); (first | exact rfl | assumption); omega)
    | ((with_reducible apply lm_wJ); (first | exact rfl | assumption); omega)
    | ((with_reducible apply lm_wB); (first | exact rfl | assumption); omega)
    | ((with_reducible apply lm_sAl); (first | exact rfl | assumption); omega)
    | ((with_reducible apply lm_iW); decide))
  refine lm_cI c3 ?_
  simp only [Nat.reduceDiv, Nat.reduceMod]
  rw [show m 194 4 = Int32.ofNat (lm_sn s) from h.1.1.2.1, lm_oo]
  refine k1 _ ?_
  refine lm_e183_25 ?_
  unfold lm_q183_25
  repeat (first
    | ((with_reducible apply lm_sI); exact rfl)
    | ((with_reducible apply lm_sR); exact rfl)
    | ((with_reducible apply lm_sS); exact rfl; exact rfl)
    | ((with_reducible apply lm_sL); exact rfl)
    | ((with_reducible apply lm_sP); exact rfl; exact rfl)
    | ((with_reducible apply lm_sPL); exact rfl; exact rfl)
    | ((with_reducible apply lm_sAA); exact rfl; exact rfl)
    | ((with_reducible apply lm_sA); (first | exact rfl | assumption); omega)
    | ((with_reducible apply lm_sJ); (first | exact rfl | assumption); omega)
    | ((with_reducible apply lm_sB); (first | exact rfl | assumption); omega)
    | ((with_reducible apply lm_wA); (first | exact rfl | assumption); omega)
    | ((with_reducible apply lm_wJ); (first | exact rfl | assumption); omega)
    | ((with_reducible apply lm_wB); (first | exact rfl | assumption); omega)
    | ((with_reducible apply lm_sAl); (first | exact rfl | assumption); omega)
    | ((with_reducible apply lm_iW); decide))
  simp only [Nat.reduceDiv, Nat.reduceMod]
  rw [show m1 194 5 = Int32.ofNat (lm_sd s) from i1.1.1.2.2.1]
  exact lm_geT (by omega) (by omega) (Nat.le_refl _) rfl
end LMTK
