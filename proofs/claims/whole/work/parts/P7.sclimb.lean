/-! ===== SLH of the class: from a leaf to the root ===== -/
def lm_hcl (W : lm_WT) (ty u : Int32) (I : Nat) (A V : Nat → Int32) : Nat → Nat → Int32
  | 0 => V
  | j + 1 => lm_hF W ty u (Int32.ofNat (j + 1)) (Int32.ofNat (I / 2 ^ (j + 1))) (if I / 2 ^ j % 2 = 0 then lm_cat (lm_sn W.2.1) (lm_hcl W ty u I A V j) (fun t => A (j * lm_sn W.2.1 + t)) else lm_cat (lm_sn W.2.1) (fun t => A (j * lm_sn W.2.1 + t)) (lm_hcl W ty u I A V j)) (2 * lm_sn W.2.1)
theorem lm_cat_x {n : Nat} {A A' B B' : Nat → Int32} (h1 : ∀ t, t < n → A t = A' t) (h2 : ∀ t, t < n → B t = B' t) {t : Nat} (ht : t < 2 * n) : lm_cat n A B t = lm_cat n A' B' t := by
  unfold lm_cat
  by_cases c : t < n
  · rw [if_pos c, if_pos c, h1 t c]
  · rw [if_neg c, if_neg c, h2 _ (by omega)]
theorem lm_hcl_x {W : lm_WT} {ty u : Int32} {I l : Nat} {A A' V V' : Nat → Int32} (hA : ∀ t, t < l * lm_sn W.2.1 → A t = A' t) (hV : ∀ t, t < lm_sn W.2.1 → V t = V' t) : ∀ j, j ≤ l → ∀ t, t < lm_sn W.2.1 → lm_hcl W ty u I A V j t = lm_hcl W ty u I A' V' j t := by
  intro j
  induction j with
  | zero => intro _; exact hV
  | succ j ih =>
    intro hj t _
    have hl : j * lm_sn W.2.1 + lm_sn W.2.1 ≤ l * lm_sn W.2.1 := by rw [← Nat.succ_mul]; exact Nat.mul_le_mul_right _ hj
    have e1 := ih (by omega)
    have e2 : ∀ t, t < lm_sn W.2.1 → A (j * lm_sn W.2.1 + t) = A' (j * lm_sn W.2.1 + t) := fun t ht => hA _ (by omega)
    show lm_hF W ty u _ _ _ _ t = lm_hF W ty u _ _ _ _ t
    refine lm_hF_x fun t' ht' => ?_
    by_cases c : I / 2 ^ j % 2 = 0
    · rw [if_pos c, if_pos c]; exact lm_cat_x e1 e2 ht'
    · rw [if_neg c, if_neg c]; exact lm_cat_x e2 e1 ht'
section LMSX
variable {xs : List Int32} {d : Nat} {W : lm_WT} {m m' : lm_MI} {n n' : lm_ML} {x : lm_H × Nat × Nat} {V A : Nat → Int32} {ty u : Int32} {p w b I lv : Nat}
def lm_I305 (W : lm_WT) (ty u : Int32) (I : Nat) (A V : Nat → Int32) (m0 : lm_MI) (n0 : lm_ML) (j : Nat) (m : lm_MI) (n : lm_ML) : Prop := lm_SX W m n ∧ (∀ r, (r < 5 ∨ 22 < r) → r ≠ 195 → r ≠ 197 → r ≠ 198 → m r = m0 r) ∧ lm_fN m0 n0 m n ∧ ∀ t, t < lm_sn W.2.1 → lm_b8 (m 197 t) = lm_hcl W ty u I A V j t
theorem lm_l305 (hC : lm_Cok xs W.1) (hs : W.2.1 ≤ 11) {m0 : lm_MI} {n0 : lm_ML} (hI : I ≤ 2000000) (hlv : lv ≤ 14) (hp : lm_ar p = some (1, w)) (gp : 22 < p) (gp5 : p ≠ 195) (gp7 : p ≠ 197) (gp8 : p ≠ 198) (hbw : b + lv * lm_sn W.2.1 ≤ w) (hA : ∀ t, t < lv * lm_sn W.2.1 → lm_b8 (m0 p (b + t)) = A t) : ∀ j, j < lv → ∀ m n, lm_I305 W ty u I A V m0 n0 j m n → ∃ m' n', lm_I305 W ty u I A V m0 n0 (j + 1) m' n' ∧ ∀ R, lm_rn (lm_sc xs) (d + 5) lm_m305.2.2.2.2.1 (lm_reg lm_m305.2.2.2.2.2) (3, [(0, .ref 194), (1, .int ty), (2, .int u), (3, .int (Int32.ofNat I)), (4, .int (Int32.ofNat lv)), (5, .ref p), (6, .int (Int32.ofNat b)), (7, .int (Int32.ofNat (j + 1)))], []) (lm_w m' n' x) = some R → lm_rn (lm_sc xs) (d + 5) lm_m305.2.2.2.2.1 (lm_reg lm_m305.2.2.2.2.2) (3, [(0, .ref 194), (1, .int ty), (2, .int u), (3, .int (Int32.ofNat I)), (4, .int (Int32.ofNat lv)), (5, .ref p), (6, .int (Int32.ofNat b)), (7, .int (Int32.ofNat j))], []) (lm_w m n x) = some R := by
  intro j hj m n ⟨i1, i2, i3, i4⟩
  have hpar := lm_spar _ hs
  have hl : j * lm_sn W.2.1 + lm_sn W.2.1 ≤ lv * lm_sn W.2.1 := by rw [← Nat.succ_mul]; exact Nat.mul_le_mul_right _ hj
  have h2 : I / 2 ^ j % 2 = 0 ∨ I / 2 ^ j % 2 = 1 := by omega
  have hbN : I / 2 ^ j % 2 * lm_sn W.2.1 ≤ lm_sn W.2.1 := by rcases h2 with e | e <;> rw [e] <;> omega
  generalize eM : lm_cp (lm_cp m 198 (I / 2 ^ j % 2 * lm_sn W.2.1) 197 0 (lm_sn W.2.1)) 198 (lm_sn W.2.1 - I / 2 ^ j % 2 * lm_sn W.2.1) p (b + j * lm_sn W.2.1) (lm_sn W.2.1) = M
  have rM : ∀ r, r ≠ 198 → M r = m r := fun r hr => by rw [← eM, lm_cp_row hr, lm_cp_row hr]
  have SM : lm_SX W M n := i1.keep (rM 194 (by decide)) (rM 195 (by decide)) (rM 196 (by decide)) (fun r _ _ => rM r (by omega)) (fun _ _ _ => rfl)
  obtain ⟨m1, m2, n2, c1, c2, e1, f2, g2, S2, o2, v2⟩ := lm_nh (d := d) (x := x) (q := 198) (v := 64) (a := 0) (l := 2 * lm_sn W.2.1) (X := if I / 2 ^ j % 2 = 0 then lm_cat (lm_sn W.2.1) (lm_hcl W ty u I A V j) (fun t => A (j * lm_sn W.2.1 + t)) else lm_cat (lm_sn W.2.1) (fun t => A (j * lm_sn W.2.1 + t)) (lm_hcl W ty u I A V j)) (p := 197) (w := 32) (b := 0) (ty := ty) (u := u) (y := Int32.ofNat (j + 1)) (z := Int32.ofNat (I / 2 ^ (j + 1))) hC hs SM rfl (by decide) (by decide) (by omega) (by decide) (fun t ht => by
    have hAt : ∀ t, t < lm_sn W.2.1 → lm_b8 (m p (t + (b + j * lm_sn W.2.1))) = A (j * lm_sn W.2.1 + t) := fun t ht => by
      rw [i2 p (by omega) gp5 gp7 gp8, ← hA _ (by omega)]
      congr 2
      omega
    rw [Nat.zero_add, ← eM]
    rcases h2 with e | e
    · rw [e, if_pos rfl, Nat.zero_mul, Nat.sub_zero]
      unfold lm_cat
      by_cases c : t < lm_sn W.2.1
      · rw [if_pos c, lm_rc, if_neg (by omega), lm_rc, if_pos (by omega), Nat.sub_zero, Nat.add_zero]
        exact i4 t c
      · rw [if_neg c, lm_rc, if_pos (by omega), lm_cp_row gp8]
        exact hAt (t - lm_sn W.2.1) (by omega)
    · rw [e, if_neg (by decide), Nat.one_mul, Nat.sub_self]
      unfold lm_cat
      by_cases c : t < lm_sn W.2.1
      · rw [if_pos c, lm_rc, if_pos (by omega), lm_cp_row gp8, Nat.sub_zero]
        exact hAt t c
      · rw [if_neg c, lm_rc, if_neg (by omega), lm_rc, if_pos (by omega), Nat.add_zero]
        exact i4 _ (by omega)) rfl (by decide) (by decide) (by decide) (by omega) (by decide)
  refine ⟨m2, n2, ⟨S2, fun r r1 r2 r3 r4 => by rw [f2 r r1 r2 r3, rM r r4, i2 r r1 r2 r3 r4], ⟨fun r hr => by rw [g2.1 r hr, i3.1 r hr], by rw [g2.2.1, rM 11 (by decide), i3.2.1], by rw [g2.2.2, rM 17 (by decide), i3.2.2]⟩, fun t ht => by have g := v2 t ht; rw [Nat.zero_add] at g; exact g⟩, fun R KK => ?_⟩
  clear i4 v2 o2 hA
  have e194 : ∀ M' : lm_MI, M' 194 = m 194 → M' 194 4 = Int32.ofNat (lm_sn W.2.1) := fun M' e => by rw [e]; exact i1.1.1.2.1
  refine lm_e305_3 ?_
  unfold lm_q305_3
  have ea : Int32.ofNat (I / 2 ^ j) &&& Int32.ofNat 1 = Int32.ofNat (I / 2 ^ j % 2) := lm_andm (k := 1) (Nat.lt_of_le_of_lt (Nat.div_le_self _ _) (by omega)) (by decide)
  rw [lm_K0, lm_K1, lm_K2, lm_oo, lm_srN (a := I) (b := j) (by omega) (by omega), lm_srN (a := I) (b := j + 1) (by omega) (by omega), ea]
  refine lm_geF (by omega) (by omega) (by omega) ?_
  repeat (first
    | ((with_reducible apply lm_sI); exact rfl)
    | ((with_reducible apply lm_sR); exact rfl)
    | ((with_reducible apply lm_sS); exact rfl; exact rfl)
    | ((with_reducible apply lm_sL); exact rfl)
    | ((with_reducible apply lm_sP); exact rfl; exact rfl)
    | ((with_reducible apply lm_sPL); exact rfl; exact rfl)
    | ((with_reducible apply lm_sAA); exact rfl; exact rfl)
    | ((with_reducible apply lm_sA); (first | exact rfl | assumption); omega)
    | ((with_reducible apply lm_sJ); (first | exact rfl | assumption); omega)
    | ((with_reducible apply lm_sB); (first | exact rfl | assumption); omega)
    | ((with_reducible apply lm_wA); (first | exact rfl | assumption); omega)
    | ((with_reducible apply lm_wJ); (first | exact rfl | assumption); omega)
    | ((with_reducible apply lm_wB); (first | exact rfl | assumption); omega)
    | ((with_reducible apply lm_sAl); (first | exact rfl | assumption); omega)
    | ((with_reducible apply lm_iW); decide))
  simp only [Nat.reduceDiv, Nat.reduceMod]
  rw [e194 m rfl, lm_om]
  refine lm_sCp (u := 1) rfl rfl (Or.inr rfl) (by omega) (by omega) ?_
  repeat (first
    | ((with_reducible apply lm_sI); exact rfl)
    | ((with_reducible apply lm_sR); exact rfl)
    | ((with_reducible apply lm_sS); exact rfl; exact rfl)
    | ((with_reducible apply lm_sL); exact rfl)
    | ((with_reducible apply lm_sP); exact rfl; exact rfl)
    | ((with_reducible apply lm_sPL); exact rfl; exact rfl)
    | ((with_reducible apply lm_sAA); exact rfl; exact rfl)
    | ((with_reducible apply lm_sA); (first | exact rfl | assumption); omega)
    | ((with_reducible apply lm_sJ); (first | exact rfl | assumption); omega)
    | ((with_reducible apply lm_sB); (first | exact rfl | assumption); omega)
    | ((with_reducible apply lm_wA); (first | exact rfl | assumption); omega)
    | ((with_reducible apply lm_wJ); (first | exact rfl | assumption); omega)
    | ((with_reducible apply lm_wB); (first | exact rfl | assumption); omega)
    | ((with_reducible apply lm_sAl); (first | exact rfl | assumption); omega)
    | ((with_reducible apply lm_iW); decide))
  simp only [Nat.reduceDiv, Nat.reduceMod]
  rw [e194 _ (lm_cp_row (by decide)), lm_om, lm_oo, lm_osu hbN]
  refine lm_sCp (u := 1) hp rfl (Or.inr rfl) (by omega) (by omega) ?_
  rw [eM]
  repeat (first
    | ((with_reducible apply lm_sI); exact rfl)
    | ((with_reducible apply lm_sR); exact rfl)
    | ((with_reducible apply lm_sS); exact rfl; exact rfl)
    | ((with_reducible apply lm_sL); exact rfl)
    | ((with_reducible apply lm_sP); exact rfl; exact rfl)
    | ((with_reducible apply lm_sPL); exact rfl; exact rfl)
    | ((with_reducible apply lm_sAA); exact rfl; exact rfl)
    | ((with_reducible apply lm_sA); (first | exact rfl | assumption); omega)
    | ((with_reducible apply lm_sJ); (first | exact rfl | assumption); omega)
    | ((with_reducible apply lm_sB); (first | exact rfl | assumption); omega)
    | ((with_reducible apply lm_wA); (first | exact rfl | assumption); omega)
    | ((with_reducible apply lm_wJ); (first | exact rfl | assumption); omega)
    | ((with_reducible apply lm_wB); (first | exact rfl | assumption); omega)
    | ((with_reducible apply lm_sAl); (first | exact rfl | assumption); omega)
    | ((with_reducible apply lm_iW); decide))
  refine lm_cV c1 ?_
  repeat (first
    | ((with_reducible apply lm_sI); exact rfl)
    | ((with_reducible apply lm_sR); exact rfl)
    | ((with_reducible apply lm_sS); exact rfl; exact rfl)
    | ((with_reducible apply lm_sL); exact rfl)
    | ((with_reducible apply lm_sP); exact rfl; exact rfl)
    | ((with_reducible apply lm_sPL); exact rfl; exact rfl)
    | ((with_reducible apply lm_sAA); exact rfl; exact rfl)
    | ((with_reducible apply lm_sA); (first | exact rfl | assumption); omega)
    | ((with_reducible apply lm_sJ); (first | exact rfl | assumption); omega)
    | ((with_reducible apply lm_sB); (first | exact rfl | assumption); omega)
    | ((with_reducible apply lm_wA); (first | exact rfl | assumption); omega)
    | ((with_reducible apply lm_wJ); (first | exact rfl | assumption); omega)
    | ((with_reducible apply lm_wB); (first | exact rfl | assumption); omega)
    | ((with_reducible apply lm_sAl); (first | exact rfl | assumption); omega)
    | ((with_reducible apply lm_iW); decide))
  simp only [Nat.reduceDiv, Nat.reduceMod]
  rw [e194 m1 (by rw [e1, rM 194 (by decide)]), lm_om]
  refine lm_cV c2 ?_
  exact KK
theorem lm_u305 (hC : lm_Cok xs W.1) (hs : W.2.1 ≤ 11) (h : lm_SX W m n) (hV : ∀ t, t < lm_sn W.2.1 → lm_b8 (m 197 t) = V t) (hI : I ≤ 2000000) (hlv : lv ≤ 14) (hp : lm_ar p = some (1, w)) (gp : 22 < p) (gp5 : p ≠ 195) (gp7 : p ≠ 197) (gp8 : p ≠ 198) (hbw : b + lv * lm_sn W.2.1 ≤ w) (hA : ∀ t, t < lv * lm_sn W.2.1 → lm_b8 (m p (b + t)) = A t) : ∃ m' n', lm_cal (lm_sc xs) (d + 6) 305 [.ref 194, .int ty, .int u, .int (Int32.ofNat I), .int (Int32.ofNat lv), .ref p, .int (Int32.ofNat b)] (lm_w m n x) = some (.ok none, lm_w m' n' x) ∧ lm_SX W m' n' ∧ (∀ r, (r < 5 ∨ 22 < r) → r ≠ 195 → r ≠ 197 → r ≠ 198 → m' r = m r) ∧ lm_fN m n m' n' ∧ ∀ t, t < lm_sn W.2.1 → lm_b8 (m' 197 t) = lm_hcl W ty u I A V lv t := by
  obtain ⟨m1, n1, ⟨i1, i2, i3, i4⟩, k1⟩ := lm_lp (fr := fun j => (3, [(0, .ref 194), (1, .int ty), (2, .int u), (3, .int (Int32.ofNat I)), (4, .int (Int32.ofNat lv)), (5, .ref p), (6, .int (Int32.ofNat b)), (7, .int (Int32.ofNat j))], [])) (lm_l305 (ty := ty) (u := u) (V := V) (d := d) (x := x) (p := p) (b := b) (m0 := m) (n0 := n) hC hs hI hlv hp gp gp5 gp7 gp8 hbw hA) lv 0 (Nat.zero_add _) m n ⟨h, fun _ _ _ _ _ => rfl, lm_fN.rf, hV⟩
  refine ⟨m1, n1, ?_, i1, i2, i3, i4⟩
  clear i4 hA hV
  refine lm_cal_of (Y := lm_m305) rfl rfl (lm_e305_0 ?_)
  unfold lm_q305_0
  rw [lm_K0]
  refine k1 _ ?_
  refine lm_e305_3 ?_
  unfold lm_q305_3
  exact lm_geT (by omega) (by omega) (Nat.le_refl _) rfl
/-! the root of a tree out of what was signed -/
def lm_hre (W : lm_WT) (u : Int32) (A V : Nat → Int32) (t : Nat) : Int32 := lm_hch W u (Int32.ofNat (t / lm_sn W.2.1)) (lm_dgt (lm_sn W.2.1) V (t / lm_sn W.2.1)) (fun i => A (t / lm_sn W.2.1 * lm_sn W.2.1 + i)) (15 - lm_dgt (lm_sn W.2.1) V (t / lm_sn W.2.1)) (t % lm_sn W.2.1)
def lm_hrt (W : lm_WT) (I : Nat) (A V : Nat → Int32) : Nat → Int32 := lm_hcl W (Int32.ofNat 2) (Int32.ofNat 0) I (fun t => A (lm_cw W.2.1 * lm_sn W.2.1 + t)) (lm_hF W (Int32.ofNat 1) (Int32.ofNat I) (Int32.ofNat 0) (Int32.ofNat 0) (lm_hre W (Int32.ofNat I) A V) (lm_cw W.2.1 * lm_sn W.2.1)) (lm_sh W.2.1)
def lm_I268 (W : lm_WT) (u : Int32) (A V : Nat → Int32) (m0 : lm_MI) (n0 : lm_ML) (j : Nat) (m : lm_MI) (n : lm_ML) : Prop := lm_SX W m n ∧ (∀ r, (r < 5 ∨ 22 < r) → r ≠ 195 → r ≠ 199 → m r = m0 r) ∧ lm_fN m0 n0 m n ∧ (∀ t, j * lm_sn W.2.1 ≤ t → m 199 t = m0 199 t) ∧ ∀ t, t < j * lm_sn W.2.1 → lm_b8 (m 199 t) = lm_hre W u A V t
theorem lm_l268 (hC : lm_Cok xs W.1) (hs : W.2.1 ≤ 11) {m0 : lm_MI} {n0 : lm_ML} (hD : ∀ j, j < lm_cw W.2.1 → m0 202 j = Int32.ofNat (lm_dgt (lm_sn W.2.1) V j)) (hA : ∀ t, t < lm_cw W.2.1 * lm_sn W.2.1 → lm_b8 (m0 199 t) = A t) : ∀ j, j < lm_cw W.2.1 → ∀ m n, lm_I268 W u A V m0 n0 j m n → ∃ m' n', lm_I268 W u A V m0 n0 (j + 1) m' n' ∧ ∀ R, lm_rn (lm_sc xs) (d + 5) lm_m268.2.2.2.2.1 (lm_reg lm_m268.2.2.2.2.2) (26, [(0, .ref 194), (1, .int u), (2, .ref p), (3, .int (Int32.ofNat b)), (4, .int (Int32.ofNat (j + 1)))], []) (lm_w m' n' x) = some R → lm_rn (lm_sc xs) (d + 5) lm_m268.2.2.2.2.1 (lm_reg lm_m268.2.2.2.2.2) (26, [(0, .ref 194), (1, .int u), (2, .ref p), (3, .int (Int32.ofNat b)), (4, .int (Int32.ofNat j))], []) (lm_w m n x) = some R := by
  intro j hj m n ⟨i1, i2, i3, i4, i5⟩
  have hpar := lm_spar _ hs
  have hcw := lm_cwn hs hj
  have hdl := lm_dgt_lt (n := lm_sn W.2.1) (V := V) (j := j)
  obtain ⟨m3, n3, c3, f3, g3, S3, o3, v3⟩ := lm_u307 (d := d) (x := x) (u := u) (y := Int32.ofNat j) (f := lm_dgt (lm_sn W.2.1) V j) (st := 15 - lm_dgt (lm_sn W.2.1) V j) (p := 199) (w := 2144) (b := j * lm_sn W.2.1) (X := fun i => A (j * lm_sn W.2.1 + i)) hC hs i1 (by omega) rfl (by decide) (by decide) (by decide) (by omega) (by decide) (fun t ht => by rw [i4 _ (by omega)]; exact hA _ (by omega))
  refine ⟨m3, n3, ⟨S3, fun r r1 r2 r3 => by rw [f3 r r1 r2 r3, i2 r r1 r2 r3], i3.tr g3, fun t ht => by rw [Nat.succ_mul] at ht; rw [o3 t (by omega), i4 t (by omega)], fun t ht => ?_⟩, fun R KK => ?_⟩
  · rw [Nat.succ_mul] at ht
    by_cases c : t < j * lm_sn W.2.1
    · rw [o3 _ (by omega)]
      exact i5 t c
    · obtain ⟨i, rfl⟩ : ∃ i, t = j * lm_sn W.2.1 + i := ⟨t - j * lm_sn W.2.1, by omega⟩
      have hi : i < lm_sn W.2.1 := by omega
      rw [v3 i hi]
      unfold lm_hre
      rw [(lm_dmn hi).1, (lm_dmn hi).2]
  · have eD : m 202 j = Int32.ofNat (lm_dgt (lm_sn W.2.1) V j) := by rw [i2 202 (by decide) (by decide) (by decide), hD j hj]
    clear i5 v3 o3 i4 hD hA
    refine lm_e268_26 ?_
    unfold lm_q268_26
    rw [lm_K1, lm_oo, show Int32.ofInt 15 = Int32.ofNat 15 from rfl]
    repeat (first
    | ((with_reducible apply lm_sI); exact rfl)
    | ((with_reducible apply lm_sR); exact rfl)
    | ((with_reducible apply lm_sS); exact rfl; exact rfl)
    | ((with_reducible apply lm_sL); exact rfl)
    | ((with_reducible apply lm_sP); exact rfl; exact rfl)
    | ((with_reducible apply lm_sPL); exact rfl; exact rfl)
    | ((with_reducible apply lm_sAA); exact rfl; exact rfl)
    | ((with_reducible apply lm_sA); (first | exact rfl | assumption); omega)
    | ((with_reducible apply lm_sJ); (first | exact rfl | assumption); omega)
    | ((with_reducible apply lm_sB); (first | exact rfl | assumption); omega)
    | ((with_reducible apply lm_wA); (first | exact rfl | assumption); omega)
    | ((with_reducible apply lm_wJ); (first | exact rfl | assumption); omega)
    | ((with_reducible apply lm_wB); (first | exact rfl | assumption); omega)
    | ((with_reducible apply lm_sAl); (first | exact rfl | assumption); omega)
    | ((with_reducible apply lm_iW); decide))
    simp only [Nat.reduceDiv, Nat.reduceMod]
    rw [i1.1.1.2.2.2.2.2.2.1]
    refine lm_geF (by omega) (by omega) (by omega) ?_
    repeat (first
    | ((with_reducible apply lm_sI); exact rfl)
    | ((with_reducible apply lm_sR); exact rfl)
    | ((with_reducible apply lm_sS); exact rfl; exact rfl)
    | ((with_reducible apply lm_sL); exact rfl)
    | ((with_reducible apply lm_sP); exact rfl; exact rfl)
    | ((with_reducible apply lm_sPL); exact rfl; exact rfl)
    | ((with_reducible apply lm_sAA); exact rfl; exact rfl)
    | ((with_reducible apply lm_sA); (first | exact rfl | assumption); omega)
    | ((with_reducible apply lm_sJ); (first | exact rfl | assumption); omega)
    | ((with_reducible apply lm_sB); (first | exact rfl | assumption); omega)
    | ((with_reducible apply lm_wA); (first | exact rfl | assumption); omega)
    | ((with_reducible apply lm_wJ); (first | exact rfl | assumption); omega)
    | ((with_reducible apply lm_wB); (first | exact rfl | assumption); omega)
    | ((with_reducible apply lm_sAl); (first | exact rfl | assumption); omega)
    | ((with_reducible apply lm_iW); decide))
    simp only [Nat.reduceDiv, Nat.reduceMod]
    rw [eD, lm_osu (by omega), i1.1.1.2.1, lm_om]
    refine lm_cV c3 ?_
    exact KK
theorem lm_u268 (hC : lm_Cok xs W.1) (hs : W.2.1 ≤ 11) (h : lm_SX W m n) (hV : ∀ t, t < lm_sn W.2.1 → lm_b8 (m 197 t) = V t) (hI : I ≤ 2000000) (hp : lm_ar p = some (1, w)) (gp : 22 < p) (gp5 : p ≠ 195) (gp7 : p ≠ 197) (gp8 : p ≠ 198) (gp9 : p ≠ 199) (gp2 : p ≠ 202) (hbw : b + (lm_cw W.2.1 + lm_sh W.2.1) * lm_sn W.2.1 ≤ w) (hw : w ≤ 70000) (hA : ∀ t, t < (lm_cw W.2.1 + lm_sh W.2.1) * lm_sn W.2.1 → lm_b8 (m p (b + t)) = A t) : ∃ m' n', lm_cal (lm_sc xs) (d + 7) 268 [.ref 194, .int (Int32.ofNat I), .ref p, .int (Int32.ofNat b)] (lm_w m n x) = some (.ok none, lm_w m' n' x) ∧ lm_SX W m' n' ∧ (∀ r, (r < 5 ∨ 22 < r) → r ≠ 195 → r ≠ 197 → r ≠ 198 → r ≠ 199 → r ≠ 202 → m' r = m r) ∧ lm_fN m n m' n' ∧ ∀ t, t < lm_sn W.2.1 → lm_b8 (m' 197 t) = lm_hrt W I A V t := by
  have hpar := lm_spar _ hs
  have hcw := lm_cwn hs (j := 0) (by unfold lm_cw; omega)
  rw [Nat.add_mul] at hbw hA
  obtain ⟨m0, c0, f0, v0⟩ := lm_u306 (sc := lm_sc xs) (d := d + 5) (m := m) (n := n) (x := x) hpar.1 h.1.1.2.1 hV
  generalize eM : lm_cp m0 199 0 p b (lm_cw W.2.1 * lm_sn W.2.1) = M
  have rM : ∀ r, r ≠ 199 → M r = m0 r := fun r hr => by rw [← eM, lm_cp_row hr]
  have rM' : ∀ r, r ≠ 199 → r ≠ 202 → M r = m r := fun r h1 h2 => by rw [rM r h1, f0 r h2]
  have S0 : lm_SX W M n := h.keep (rM' 194 (by decide) (by decide)) (rM' 195 (by decide) (by decide)) (rM' 196 (by decide) (by decide)) (fun r _ _ => rM' r (by omega) (by omega)) (fun _ _ _ => rfl)
  obtain ⟨m1, n1, ⟨i1, i2, i3, i4, i5⟩, k1⟩ := lm_lp (fr := fun j => (26, [(0, .ref 194), (1, .int (Int32.ofNat I)), (2, .ref p), (3, .int (Int32.ofNat b)), (4, .int (Int32.ofNat j))], [])) (lm_l268 (A := A) (V := V) (u := Int32.ofNat I) (d := d + 1) (x := x) (p := p) (b := b) (m0 := M) (n0 := n) hC hs (fun j hj => by rw [rM 202 (by decide)]; exact v0 j hj) (fun t ht => by
    rw [← eM, lm_rc, if_pos (by omega), Nat.sub_zero, f0 p gp2, Nat.add_comm, hA t (by omega)])) (lm_cw W.2.1) 0 (Nat.zero_add _) M n ⟨S0, fun _ _ _ _ => rfl, lm_fN.rf, fun _ _ => rfl, fun t ht => absurd ht (by rw [Nat.zero_mul]; omega)⟩
  obtain ⟨m2, m3, n3, c2, c3, e2, f3, g3, S3, o3, v3⟩ := lm_nh (d := d + 1) (x := x) (q := 199) (v := 2144) (a := 0) (l := lm_cw W.2.1 * lm_sn W.2.1) (X := lm_hre W (Int32.ofNat I) A V) (p := 197) (w := 32) (b := 0) (ty := Int32.ofNat 1) (u := Int32.ofNat I) (y := Int32.ofNat 0) (z := Int32.ofNat 0) hC hs i1 rfl (by decide) (by decide) (by omega) (by decide) (fun t ht => by rw [Nat.zero_add]; exact i5 t ht) rfl (by decide) (by decide) (by decide) (by omega) (by decide)
  have ep : m3 p = m p := by rw [f3 p (by omega) gp5 gp7, i2 p (by omega) gp5 gp9, rM' p gp9 gp2]
  obtain ⟨m4, n4, c4, S4, f4, g4, v4⟩ := lm_u305 (d := d) (x := x) (ty := Int32.ofNat 2) (u := Int32.ofNat 0) (I := I) (lv := lm_sh W.2.1) (p := p) (w := w) (b := b + lm_cw W.2.1 * lm_sn W.2.1) (A := fun t => A (lm_cw W.2.1 * lm_sn W.2.1 + t)) (V := lm_hF W (Int32.ofNat 1) (Int32.ofNat I) (Int32.ofNat 0) (Int32.ofNat 0) (lm_hre W (Int32.ofNat I) A V) (lm_cw W.2.1 * lm_sn W.2.1)) hC hs S3 (fun t ht => by rw [← v3 t ht, Nat.zero_add]) hI (by omega) hp gp gp5 gp7 gp8 (by omega) (fun t ht => by rw [ep, Nat.add_assoc]; exact hA _ (by omega))
  refine ⟨m4, n4, ?_, S4, fun r r1 r2 r3 r4 r5 r6 => by rw [f4 r r1 r2 r3 r4, f3 r r1 r2 r3, i2 r r1 r2 r5, rM' r r5 r6], ?_, v4⟩
  · clear i5 i4 v0 hV v3 v4 o3 hA
    refine lm_cal_of (Y := lm_m268) rfl rfl (lm_e268_0 ?_)
    unfold lm_q268_0
    rw [lm_K0]
    repeat (first
    | ((with_reducible apply lm_sI); exact rfl)
    | ((with_reducible apply lm_sR); exact rfl)
    | ((with_reducible apply lm_sS); exact rfl; exact rfl)
    | ((with_reducible apply lm_sL); exact rfl)
    | ((with_reducible apply lm_sP); exact rfl; exact rfl)
    | ((with_reducible apply lm_sPL); exact rfl; exact rfl)
    | ((with_reducible apply lm_sAA); exact rfl; exact rfl)
    | ((with_reducible apply lm_sA); (first | exact rfl | assumption); omega)
    | ((with_reducible apply lm_sJ); (first | exact rfl | assumption); omega)
    | ((with_reducible apply lm_sB); (first | exact rfl | assumption); omega)
    | ((with_reducible apply lm_wA); (first | exact rfl | assumption); omega)
    | ((with_reducible apply lm_wJ); (first | exact rfl | assumption); omega)
    | ((with_reducible apply lm_wB); (first | exact rfl | assumption); omega)
    | ((with_reducible apply lm_sAl); (first | exact rfl | assumption); omega)
    | ((with_reducible apply lm_iW); decide))
    refine lm_cV c0 ?_
    repeat (first
    | ((with_reducible apply lm_sI); exact rfl)
    | ((with_reducible apply lm_sR); exact rfl)
    | ((with_reducible apply lm_sS); exact rfl; exact rfl)
    | ((with_reducible apply lm_sL); exact rfl)
    | ((with_reducible apply lm_sP); exact rfl; exact rfl)
    | ((with_reducible apply lm_sPL); exact rfl; exact rfl)
    | ((with_reducible apply lm_sAA); exact rfl; exact rfl)
    | ((with_reducible apply lm_sA); (first | exact rfl | assumption); omega)
    | ((with_reducible apply lm_sJ); (first | exact rfl | assumption); omega)
    | ((with_reducible apply lm_sB); (first | exact rfl | assumption); omega)
    | ((with_reducible apply lm_wA); (first | exact rfl | assumption); omega)
    | ((with_reducible apply lm_wJ); (first | exact rfl | assumption); omega)
    | ((with_reducible apply lm_wB); (first | exact rfl | assumption); omega)
    | ((with_reducible apply lm_sAl); (first | exact rfl | assumption); omega)
    | ((with_reducible apply lm_iW); decide))
    simp only [Nat.reduceDiv, Nat.reduceMod]
    rw [f0 194 (by decide), h.1.1.2.2.2.2.2.2.1, h.1.1.2.1, lm_om]
    refine lm_sCp (u := 1) hp rfl (Or.inr rfl) (by omega) (by omega) ?_
    rw [eM]
    refine k1 _ ?_
    refine lm_e268_26 ?_
    unfold lm_q268_26
    rw [lm_K0, lm_K1, lm_K2]
    repeat (first
    | ((with_reducible apply lm_sI); exact rfl)
    | ((with_reducible apply lm_sR); exact rfl)
    | ((with_reducible apply lm_sS); exact rfl; exact rfl)
    | ((with_reducible apply lm_sL); exact rfl)
    | ((with_reducible apply lm_sP); exact rfl; exact rfl)
    | ((with_reducible apply lm_sPL); exact rfl; exact rfl)
    | ((with_reducible apply lm_sAA); exact rfl; exact rfl)
    | ((with_reducible apply lm_sA); (first | exact rfl | assumption); omega)
    | ((with_reducible apply lm_sJ); (first | exact rfl | assumption); omega)
    | ((with_reducible apply lm_sB); (first | exact rfl | assumption); omega)
    | ((with_reducible apply lm_wA); (first | exact rfl | assumption); omega)
    | ((with_reducible apply lm_wJ); (first | exact rfl | assumption); omega)
    | ((with_reducible apply lm_wB); (first | exact rfl | assumption); omega)
    | ((with_reducible apply lm_sAl); (first | exact rfl | assumption); omega)
    | ((with_reducible apply lm_iW); decide))
    simp only [Nat.reduceDiv, Nat.reduceMod]
    rw [i1.1.1.2.2.2.2.2.2.1]
    refine lm_geT (by omega) (by omega) (Nat.le_refl _) ?_
    repeat (first
    | ((with_reducible apply lm_sI); exact rfl)
    | ((with_reducible apply lm_sR); exact rfl)
    | ((with_reducible apply lm_sS); exact rfl; exact rfl)
    | ((with_reducible apply lm_sL); exact rfl)
    | ((with_reducible apply lm_sP); exact rfl; exact rfl)
    | ((with_reducible apply lm_sPL); exact rfl; exact rfl)
    | ((with_reducible apply lm_sAA); exact rfl; exact rfl)
    | ((with_reducible apply lm_sA); (first | exact rfl | assumption); omega)
    | ((with_reducible apply lm_sJ); (first | exact rfl | assumption); omega)
    | ((with_reducible apply lm_sB); (first | exact rfl | assumption); omega)
    | ((with_reducible apply lm_wA); (first | exact rfl | assumption); omega)
    | ((with_reducible apply lm_wJ); (first | exact rfl | assumption); omega)
    | ((with_reducible apply lm_wB); (first | exact rfl | assumption); omega)
    | ((with_reducible apply lm_sAl); (first | exact rfl | assumption); omega)
    | ((with_reducible apply lm_iW); decide))
    refine lm_cV c2 ?_
    repeat (first
    | ((with_reducible apply lm_sI); exact rfl)
    | ((with_reducible apply lm_sR); exact rfl)
    | ((with_reducible apply lm_sS); exact rfl; exact rfl)
    | ((with_reducible apply lm_sL); exact rfl)
    | ((with_reducible apply lm_sP); exact rfl; exact rfl)
    | ((with_reducible apply lm_sPL); exact rfl; exact rfl)
    | ((with_reducible apply lm_sAA); exact rfl; exact rfl)
    | ((with_reducible apply lm_sA); (first | exact rfl | assumption); omega)
    | ((with_reducible apply lm_sJ); (first | exact rfl | assumption); omega)
    | ((with_reducible apply lm_sB); (first | exact rfl | assumption); omega)
    | ((with_reducible apply lm_wA); (first | exact rfl | assumption); omega)
    | ((with_reducible apply lm_wJ); (first | exact rfl | assumption); omega)
    | ((with_reducible apply lm_wB); (first | exact rfl | assumption); omega)
    | ((with_reducible apply lm_sAl); (first | exact rfl | assumption); omega)
    | ((with_reducible apply lm_iW); decide))
    simp only [Nat.reduceDiv, Nat.reduceMod]
    rw [e2, i1.1.1.2.2.2.2.2.2.1, i1.1.1.2.1, lm_om]
    refine lm_cV c3 ?_
    repeat (first
    | ((with_reducible apply lm_sI); exact rfl)
    | ((with_reducible apply lm_sR); exact rfl)
    | ((with_reducible apply lm_sS); exact rfl; exact rfl)
    | ((with_reducible apply lm_sL); exact rfl)
    | ((with_reducible apply lm_sP); exact rfl; exact rfl)
    | ((with_reducible apply lm_sPL); exact rfl; exact rfl)
    | ((with_reducible apply lm_sAA); exact rfl; exact rfl)
    | ((with_reducible apply lm_sA); (first | exact rfl | assumption); omega)
    | ((with_reducible apply lm_sJ); (first | exact rfl | assumption); omega)
    | ((with_reducible apply lm_sB); (first | exact rfl | assumption); omega)
    | ((with_reducible apply lm_wA); (first | exact rfl | assumption); omega)
    | ((with_reducible apply lm_wJ); (first | exact rfl | assumption); omega)
    | ((with_reducible apply lm_wB); (first | exact rfl | assumption); omega)
    | ((with_reducible apply lm_sAl); (first | exact rfl | assumption); omega)
    | ((with_reducible apply lm_iW); decide))
    simp only [Nat.reduceDiv, Nat.reduceMod]
    rw [S3.1.1.2.2.2.1, S3.1.1.2.2.2.2.2.2.1, S3.1.1.2.1, lm_om, lm_oo]
    exact lm_cV c4 rfl
  · exact lm_fN.tr ⟨i3.1, by rw [i3.2.1, rM' 11 (by decide) (by decide)], by rw [i3.2.2, rM' 17 (by decide) (by decide)]⟩ (g3.tr g4)
end LMSX
