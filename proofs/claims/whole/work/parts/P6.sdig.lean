/-! ===== SLH of the class: digits, signed chains ===== -/
def lm_nbl (V : Nat → Int32) (i : Nat) : Nat := lm_yb (V (i / 2)) / 2 ^ (if i % 2 = 0 then 4 else 0) % 16
def lm_nsm (V : Nat → Int32) : Nat → Nat
  | 0 => 0
  | c + 1 => lm_nsm V c + (15 - lm_nbl V c)
def lm_dgt (n : Nat) (V : Nat → Int32) (j : Nat) : Nat := if j < 2 * n then lm_nbl V j else if j = 2 * n then lm_nsm V (2 * n) / 256 % 16 else if j = 2 * n + 1 then lm_nsm V (2 * n) / 16 % 16 else lm_nsm V (2 * n) % 16
theorem lm_nbl_lt {V : Nat → Int32} {i : Nat} : lm_nbl V i < 16 := Nat.mod_lt _ (by decide)
theorem lm_nsm_le {V : Nat → Int32} : ∀ c, lm_nsm V c ≤ 15 * c := by
  intro c
  induction c with
  | zero => exact Nat.le_refl _
  | succ c ih =>
    show lm_nsm V c + (15 - lm_nbl V c) ≤ _
    omega
theorem lm_dgt_lt {n : Nat} {V : Nat → Int32} {j : Nat} : lm_dgt n V j < 16 := by
  unfold lm_dgt
  by_cases c0 : j < 2 * n
  · rw [if_pos c0]; exact lm_nbl_lt
  · rw [if_neg c0]
    by_cases c1 : j = 2 * n
    · rw [if_pos c1]; exact Nat.mod_lt _ (by decide)
    · rw [if_neg c1]
      by_cases c2 : j = 2 * n + 1
      · rw [if_pos c2]; exact Nat.mod_lt _ (by decide)
      · rw [if_neg c2]; exact Nat.mod_lt _ (by decide)
theorem lm_a15 {a : Nat} (ha : a < 4294967296) : Int32.ofNat a &&& Int32.ofInt 15 = Int32.ofNat (a % 16) := lm_andm (k := 4) ha (by decide)
theorem lm_nbl_x {V V' : Nat → Int32} {i n : Nat} (h : ∀ t, t < n → V t = V' t) (hi : i < 2 * n) : lm_nbl V i = lm_nbl V' i := by
  unfold lm_nbl
  rw [h _ (by omega)]
theorem lm_nsm_x {V V' : Nat → Int32} {n : Nat} (h : ∀ t, t < n → V t = V' t) : ∀ c, c ≤ 2 * n → lm_nsm V c = lm_nsm V' c := by
  intro c
  induction c with
  | zero => intro _; rfl
  | succ c ih =>
    intro hc
    show lm_nsm V c + (15 - lm_nbl V c) = lm_nsm V' c + (15 - lm_nbl V' c)
    rw [ih (by omega), lm_nbl_x h (by omega)]
theorem lm_dgt_x {V V' : Nat → Int32} {n j : Nat} (h : ∀ t, t < n → V t = V' t) : lm_dgt n V j = lm_dgt n V' j := by
  unfold lm_dgt
  rw [lm_nsm_x h _ (Nat.le_refl _)]
  by_cases c : j < 2 * n
  · rw [if_pos c, if_pos c, lm_nbl_x h c]
  · rw [if_neg c, if_neg c]
section LMSW
variable {xs : List Int32} {sc : lm_H} {d N : Nat} {W : lm_WT} {m m' : lm_MI} {n n' : lm_ML} {x : lm_H × Nat × Nat} {V : Nat → Int32} {u : Int32} {p w b : Nat}
def lm_I306 (V : Nat → Int32) (m0 : lm_MI) (n0 : lm_ML) (i : Nat) (m : lm_MI) (n : lm_ML) : Prop := n = n0 ∧ (∀ r, r ≠ 202 → m r = m0 r) ∧ ∀ j, j < i → m 202 j = Int32.ofNat (lm_nbl V j)
theorem lm_l306 {m0 : lm_MI} {n0 : lm_ML} (hN : N ≤ 32) (h4 : m0 194 4 = Int32.ofNat N) (hV : ∀ t, t < N → lm_b8 (m0 197 t) = V t) : ∀ i, i < 2 * N → ∀ m n, lm_I306 V m0 n0 i m n → ∃ m' n', lm_I306 V m0 n0 (i + 1) m' n' ∧ ∀ R, lm_rn sc d lm_m306.2.2.2.2.1 (lm_reg lm_m306.2.2.2.2.2) (4, [(0, .ref 194), (1, .int (Int32.ofNat (lm_nsm V (i + 1)))), (2, .int (Int32.ofNat (i + 1)))], []) (lm_w m' n' x) = some R → lm_rn sc d lm_m306.2.2.2.2.1 (lm_reg lm_m306.2.2.2.2.2) (4, [(0, .ref 194), (1, .int (Int32.ofNat (lm_nsm V i))), (2, .int (Int32.ofNat i))], []) (lm_w m n x) = some R := by
  intro i hi m n ⟨i0, i1, i2⟩
  have hlt := lm_nbl_lt (V := V) (i := i)
  have hsm := lm_nsm_le (V := V) i
  refine ⟨lm_u m 202 i (Int32.ofNat (lm_nbl V i)), n, ⟨i0, fun r hr => by rw [lm_u_row hr, i1 r hr], fun j hj => ?_⟩, fun R KK => ?_⟩
  · by_cases c : j = i
    · rw [c, lm_u_eq]
    · rw [lm_u_ne (fun g => c g.2), i2 j (by omega)]
  · have hnib : (lm_b8 (m 197 (i / 2)) >>> (Int32.ofNat (if i % 2 = 0 then 4 else 0) &&& 31)) &&& Int32.ofInt 15 = Int32.ofNat (lm_nbl V i) := by
      rw [lm_nib _ (by split <;> decide)]
      unfold lm_nbl
      rw [← hV (i / 2) (by omega), lm_yb_b8, i1 197 (by decide)]
    have e38 : lm_rn sc d lm_m306.2.2.2.2.1 (lm_reg lm_m306.2.2.2.2.2) (38, [(0, .ref 194), (1, .int (Int32.ofNat (lm_nsm V i))), (2, .int (Int32.ofNat i))], [.int (Int32.ofNat (if i % 2 = 0 then 4 else 0)), .int (lm_b8 (m 197 (i / 2))), .int (Int32.ofNat i), .ref 202]) (lm_w m n x) = some R := by
      refine lm_e306_38 ?_
      unfold lm_q306_38
      rw [hnib, lm_K1, lm_oo, show Int32.ofInt 15 = Int32.ofNat 15 from rfl]
      repeat (first
    | ((with_reducible apply lm_sI); exact rfl)
    | ((with_reducible apply lm_sR); exact rfl)
    | ((with_reducible apply lm_sS); exact rfl; exact rfl)
    | ((with_reducible apply lm_sL); exact rfl)
    | ((with_reducible apply lm_sP); exact rfl; exact rfl)
    | ((with_reducible apply lm_sPL); exact rfl; exact rfl)
    | ((with_reducible apply lm_sAA); exact rfl; exact rfl)
    | ((with_reducible apply lm_sA); (first | exact rfl | assumption); omega)
    | ((with_reducible apply lm_sJ); (first | exact rfl | assumption); omega)
    | ((with_reducible apply lm_sB); (first | exact rfl | assumption); omega)
    | ((with_reducible apply lm_wA); (first | exact rfl | assumption); omega)
    | ((with_reducible apply lm_wJ); (first | exact rfl | assumption); omega)
    | ((with_reducible apply lm_wB); (first | exact rfl | assumption); omega)
    | ((with_reducible apply lm_sAl); (first | exact rfl | assumption); omega)
    | ((with_reducible apply lm_iW); decide))
      rw [lm_u_eq, lm_osu (by omega), lm_oo]
      exact KK
    refine lm_e306_4 ?_
    unfold lm_q306_4
    rw [lm_K0, lm_K1, lm_K2, lm_srN (a := i) (b := 1) (by decide) (by omega), lm_orm (by omega) (by decide)]
    repeat (first
    | ((with_reducible apply lm_sI); exact rfl)
    | ((with_reducible apply lm_sR); exact rfl)
    | ((with_reducible apply lm_sS); exact rfl; exact rfl)
    | ((with_reducible apply lm_sL); exact rfl)
    | ((with_reducible apply lm_sP); exact rfl; exact rfl)
    | ((with_reducible apply lm_sPL); exact rfl; exact rfl)
    | ((with_reducible apply lm_sAA); exact rfl; exact rfl)
    | ((with_reducible apply lm_sA); (first | exact rfl | assumption); omega)
    | ((with_reducible apply lm_sJ); (first | exact rfl | assumption); omega)
    | ((with_reducible apply lm_sB); (first | exact rfl | assumption); omega)
    | ((with_reducible apply lm_wA); (first | exact rfl | assumption); omega)
    | ((with_reducible apply lm_wJ); (first | exact rfl | assumption); omega)
    | ((with_reducible apply lm_wB); (first | exact rfl | assumption); omega)
    | ((with_reducible apply lm_sAl); (first | exact rfl | assumption); omega)
    | ((with_reducible apply lm_iW); decide))
    simp only [Nat.reduceDiv, Nat.reduceMod]
    rw [i1 194 (by decide), h4, lm_om]
    refine lm_geF (by omega) (by omega) (by omega) ?_
    repeat (first
    | ((with_reducible apply lm_sI); exact rfl)
    | ((with_reducible apply lm_sR); exact rfl)
    | ((with_reducible apply lm_sS); exact rfl; exact rfl)
    | ((with_reducible apply lm_sL); exact rfl)
    | ((with_reducible apply lm_sP); exact rfl; exact rfl)
    | ((with_reducible apply lm_sPL); exact rfl; exact rfl)
    | ((with_reducible apply lm_sAA); exact rfl; exact rfl)
    | ((with_reducible apply lm_sA); (first | exact rfl | assumption); omega)
    | ((with_reducible apply lm_sJ); (first | exact rfl | assumption); omega)
    | ((with_reducible apply lm_sB); (first | exact rfl | assumption); omega)
    | ((with_reducible apply lm_wA); (first | exact rfl | assumption); omega)
    | ((with_reducible apply lm_wJ); (first | exact rfl | assumption); omega)
    | ((with_reducible apply lm_wB); (first | exact rfl | assumption); omega)
    | ((with_reducible apply lm_sAl); (first | exact rfl | assumption); omega)
    | ((with_reducible apply lm_iW); decide))
    by_cases c : i % 2 = 0
    · rw [if_pos c] at e38
      rw [c]
      exact lm_iF (show ¬ ¬ Int32.ofNat 0 = 0 by decide) e38
    · rw [if_neg c] at e38
      rw [show i % 2 = 1 by omega]
      exact lm_iT (show ¬ Int32.ofNat 1 = 0 by decide) e38
theorem lm_u306 (hN : N ≤ 32) (h4 : m 194 4 = Int32.ofNat N) (hV : ∀ t, t < N → lm_b8 (m 197 t) = V t) : ∃ m', lm_cal sc (d + 1) 306 [.ref 194] (lm_w m n x) = some (.ok none, lm_w m' n x) ∧ (∀ r, r ≠ 202 → m' r = m r) ∧ ∀ j, j < 2 * N + 3 → m' 202 j = Int32.ofNat (lm_dgt N V j) := by
  obtain ⟨m1, n1, ⟨i0, i1, i2⟩, k1⟩ := lm_lp (fr := fun i => (4, [(0, .ref 194), (1, .int (Int32.ofNat (lm_nsm V i))), (2, .int (Int32.ofNat i))], [])) (lm_l306 (sc := sc) (d := d) (x := x) (m0 := m) (n0 := n) hN h4 hV) (2 * N) 0 (Nat.zero_add _) m n ⟨rfl, fun _ _ => rfl, fun j hj => absurd hj (Nat.not_lt_zero _)⟩
  subst i0
  have hsm := lm_nsm_le (V := V) (2 * N)
  generalize eS : lm_nsm V (2 * N) = S at k1 hsm
  refine ⟨lm_u (lm_u (lm_u m1 202 (2 * N) (Int32.ofNat (S / 2 ^ 8 % 16))) 202 (2 * N + 1) (Int32.ofNat (S / 2 ^ 4 % 16))) 202 (2 * N + 2) (Int32.ofNat (S % 16)), ?_, fun r hr => by rw [lm_u_row hr, lm_u_row hr, lm_u_row hr, i1 r hr], fun j hj => ?_⟩
  · refine lm_cal_of (Y := lm_m306) rfl rfl (lm_e306_0 ?_)
    unfold lm_q306_0
    rw [lm_K0]
    refine k1 _ ?_
    refine lm_e306_4 ?_
    unfold lm_q306_4
    rw [lm_K1, lm_K2, show Int32.ofInt 8 = Int32.ofNat 8 from rfl, show Int32.ofInt 4 = Int32.ofNat 4 from rfl, lm_srN (a := S) (b := 8) (by decide) (by omega), lm_srN (a := S) (b := 4) (by decide) (by omega), lm_a15 (Nat.lt_of_le_of_lt (Nat.div_le_self _ _) (by omega)), lm_a15 (Nat.lt_of_le_of_lt (Nat.div_le_self _ _) (by omega)), lm_a15 (by omega)]
    repeat (first
    | ((with_reducible apply lm_sI); exact rfl)
    | ((with_reducible apply lm_sR); exact rfl)
    | ((with_reducible apply lm_sS); exact rfl; exact rfl)
    | ((with_reducible apply lm_sL); exact rfl)
    | ((with_reducible apply lm_sP); exact rfl; exact rfl)
    | ((with_reducible apply lm_sPL); exact rfl; exact rfl)
    | ((with_reducible apply lm_sAA); exact rfl; exact rfl)
    | ((with_reducible apply lm_sA); (first | exact rfl | assumption); omega)
    | ((with_reducible apply lm_sJ); (first | exact rfl | assumption); omega)
    | ((with_reducible apply lm_sB); (first | exact rfl | assumption); omega)
    | ((with_reducible apply lm_wA); (first | exact rfl | assumption); omega)
    | ((with_reducible apply lm_wJ); (first | exact rfl | assumption); omega)
    | ((with_reducible apply lm_wB); (first | exact rfl | assumption); omega)
    | ((with_reducible apply lm_sAl); (first | exact rfl | assumption); omega)
    | ((with_reducible apply lm_iW); decide))
    simp only [Nat.reduceDiv, Nat.reduceMod]
    rw [i1 194 (by decide), h4, lm_om]
    refine lm_geT (by omega) (by omega) (Nat.le_refl _) ?_
    repeat (first
    | ((with_reducible apply lm_sI); exact rfl)
    | ((with_reducible apply lm_sR); exact rfl)
    | ((with_reducible apply lm_sS); exact rfl; exact rfl)
    | ((with_reducible apply lm_sL); exact rfl)
    | ((with_reducible apply lm_sP); exact rfl; exact rfl)
    | ((with_reducible apply lm_sPL); exact rfl; exact rfl)
    | ((with_reducible apply lm_sAA); exact rfl; exact rfl)
    | ((with_reducible apply lm_sA); (first | exact rfl | assumption); omega)
    | ((with_reducible apply lm_sJ); (first | exact rfl | assumption); omega)
    | ((with_reducible apply lm_sB); (first | exact rfl | assumption); omega)
    | ((with_reducible apply lm_wA); (first | exact rfl | assumption); omega)
    | ((with_reducible apply lm_wJ); (first | exact rfl | assumption); omega)
    | ((with_reducible apply lm_wB); (first | exact rfl | assumption); omega)
    | ((with_reducible apply lm_sAl); (first | exact rfl | assumption); omega)
    | ((with_reducible apply lm_iW); decide))
    simp only [Nat.reduceDiv, Nat.reduceMod]
    rw [i1 194 (by decide), h4, lm_om]
    repeat (first
    | ((with_reducible apply lm_sI); exact rfl)
    | ((with_reducible apply lm_sR); exact rfl)
    | ((with_reducible apply lm_sS); exact rfl; exact rfl)
    | ((with_reducible apply lm_sL); exact rfl)
    | ((with_reducible apply lm_sP); exact rfl; exact rfl)
    | ((with_reducible apply lm_sPL); exact rfl; exact rfl)
    | ((with_reducible apply lm_sAA); exact rfl; exact rfl)
    | ((with_reducible apply lm_sA); (first | exact rfl | assumption); omega)
    | ((with_reducible apply lm_sJ); (first | exact rfl | assumption); omega)
    | ((with_reducible apply lm_sB); (first | exact rfl | assumption); omega)
    | ((with_reducible apply lm_wA); (first | exact rfl | assumption); omega)
    | ((with_reducible apply lm_wJ); (first | exact rfl | assumption); omega)
    | ((with_reducible apply lm_wB); (first | exact rfl | assumption); omega)
    | ((with_reducible apply lm_sAl); (first | exact rfl | assumption); omega)
    | ((with_reducible apply lm_iW); decide))
    simp only [Nat.reduceDiv, Nat.reduceMod]
    rw [lm_u_row (by decide), i1 194 (by decide), h4, lm_om, lm_oo]
    repeat (first
    | ((with_reducible apply lm_sI); exact rfl)
    | ((with_reducible apply lm_sR); exact rfl)
    | ((with_reducible apply lm_sS); exact rfl; exact rfl)
    | ((with_reducible apply lm_sL); exact rfl)
    | ((with_reducible apply lm_sP); exact rfl; exact rfl)
    | ((with_reducible apply lm_sPL); exact rfl; exact rfl)
    | ((with_reducible apply lm_sAA); exact rfl; exact rfl)
    | ((with_reducible apply lm_sA); (first | exact rfl | assumption); omega)
    | ((with_reducible apply lm_sJ); (first | exact rfl | assumption); omega)
    | ((with_reducible apply lm_sB); (first | exact rfl | assumption); omega)
    | ((with_reducible apply lm_wA); (first | exact rfl | assumption); omega)
    | ((with_reducible apply lm_wJ); (first | exact rfl | assumption); omega)
    | ((with_reducible apply lm_wB); (first | exact rfl | assumption); omega)
    | ((with_reducible apply lm_sAl); (first | exact rfl | assumption); omega)
    | ((with_reducible apply lm_iW); decide))
    simp only [Nat.reduceDiv, Nat.reduceMod]
    rw [lm_u_row (by decide), lm_u_row (by decide), i1 194 (by decide), h4, lm_om, lm_oo]
    repeat (first
    | ((with_reducible apply lm_sI); exact rfl)
    | ((with_reducible apply lm_sR); exact rfl)
    | ((with_reducible apply lm_sS); exact rfl; exact rfl)
    | ((with_reducible apply lm_sL); exact rfl)
    | ((with_reducible apply lm_sP); exact rfl; exact rfl)
    | ((with_reducible apply lm_sPL); exact rfl; exact rfl)
    | ((with_reducible apply lm_sAA); exact rfl; exact rfl)
    | ((with_reducible apply lm_sA); (first | exact rfl | assumption); omega)
    | ((with_reducible apply lm_sJ); (first | exact rfl | assumption); omega)
    | ((with_reducible apply lm_sB); (first | exact rfl | assumption); omega)
    | ((with_reducible apply lm_wA); (first | exact rfl | assumption); omega)
    | ((with_reducible apply lm_wJ); (first | exact rfl | assumption); omega)
    | ((with_reducible apply lm_wB); (first | exact rfl | assumption); omega)
    | ((with_reducible apply lm_sAl); (first | exact rfl | assumption); omega)
    | ((with_reducible apply lm_iW); decide))
    exact rfl
  · unfold lm_dgt
    rw [eS]
    by_cases c0 : j < 2 * N
    · rw [if_pos c0, lm_u_ne (by omega), lm_u_ne (by omega), lm_u_ne (by omega), i2 j c0]
    · rw [if_neg c0]
      by_cases c1 : j = 2 * N
      · rw [if_pos c1, c1, lm_u_ne (by omega), lm_u_ne (by omega), lm_u_eq]
      · rw [if_neg c1]
        by_cases c2 : j = 2 * N + 1
        · rw [if_pos c2, c2, lm_u_ne (by omega), lm_u_eq]
        · rw [if_neg c2, show j = 2 * N + 2 by omega, lm_u_eq]
/-- the bytes that a pair of a tree signs with -/
def lm_hsg (W : lm_WT) (u : Int32) (V : Nat → Int32) (t : Nat) : Int32 := lm_hch W u (Int32.ofNat (t / lm_sn W.2.1)) 0 (lm_hcs W u (t / lm_sn W.2.1)) (lm_dgt (lm_sn W.2.1) V (t / lm_sn W.2.1)) (t % lm_sn W.2.1)
def lm_I267 (W : lm_WT) (u : Int32) (V : Nat → Int32) (p b : Nat) (m0 : lm_MI) (n0 : lm_ML) (j : Nat) (m : lm_MI) (n : lm_ML) : Prop := lm_SX W m n ∧ (∀ r, (r < 5 ∨ 22 < r) → r ≠ 195 → r ≠ p → m r = m0 r) ∧ lm_fN m0 n0 m n ∧ (∀ i, i < b ∨ b + lm_cw W.2.1 * lm_sn W.2.1 ≤ i → m p i = m0 p i) ∧ ∀ t, t < j * lm_sn W.2.1 → lm_b8 (m p (b + t)) = lm_hsg W u V t
theorem lm_l267 (hC : lm_Cok xs W.1) (hs : W.2.1 ≤ 11) {m0 : lm_MI} {n0 : lm_ML} (hD : ∀ j, j < lm_cw W.2.1 → m0 202 j = Int32.ofNat (lm_dgt (lm_sn W.2.1) V j)) (hp : lm_ar p = some (1, w)) (gp : 22 < p) (gp5 : p ≠ 195) (gp6 : p ≠ 196) (gp2 : p ≠ 202) (hbw : b + lm_cw W.2.1 * lm_sn W.2.1 ≤ w) (hw : w ≤ 70000) : ∀ j, j < lm_cw W.2.1 → ∀ m n, lm_I267 W u V p b m0 n0 j m n → ∃ m' n', lm_I267 W u V p b m0 n0 (j + 1) m' n' ∧ ∀ R, lm_rn (lm_sc xs) (d + 5) lm_m267.2.2.2.2.1 (lm_reg lm_m267.2.2.2.2.2) (7, [(0, .ref 194), (1, .int u), (2, .ref p), (3, .int (Int32.ofNat b)), (4, .int (Int32.ofNat (j + 1)))], []) (lm_w m' n' x) = some R → lm_rn (lm_sc xs) (d + 5) lm_m267.2.2.2.2.1 (lm_reg lm_m267.2.2.2.2.2) (7, [(0, .ref 194), (1, .int u), (2, .ref p), (3, .int (Int32.ofNat b)), (4, .int (Int32.ofNat j))], []) (lm_w m n x) = some R := by
  intro j hj m n ⟨i1, i2, i3, i4, i5⟩
  have hpar := lm_spar _ hs
  have hcw := lm_cwn hs hj
  have hdl := lm_dgt_lt (n := lm_sn W.2.1) (V := V) (j := j)
  obtain ⟨m1, m2, n2, c1, c2, e1, f2, g2, S2, o2, v2⟩ := lm_nh (d := d) (x := x) (q := 196) (v := 32) (a := 0) (l := lm_sn W.2.1) (X := W.2.2.2.1) (p := p) (w := w) (b := b + j * lm_sn W.2.1) (ty := Int32.ofNat 5) (u := u) (y := Int32.ofNat j) (z := Int32.ofNat 0) hC hs i1 rfl (by decide) (by decide) (by omega) (by decide) (fun t ht => by rw [Nat.zero_add]; exact i1.2.2 t ht) hp gp gp5 gp6 (by omega) hw
  obtain ⟨m3, n3, c3, f3, g3, S3, o3, v3⟩ := lm_u307 (d := d) (x := x) (u := u) (y := Int32.ofNat j) (f := 0) (st := lm_dgt (lm_sn W.2.1) V j) (p := p) (w := w) (b := b + j * lm_sn W.2.1) hC hs S2 (by omega) hp gp gp5 gp6 (by omega) hw v2
  refine ⟨m3, n3, ⟨S3, fun r r1 r2 r3 => by rw [f3 r r1 r2 r3, f2 r r1 r2 r3, i2 r r1 r2 r3], i3.tr (g2.tr g3), fun i hi => by rw [o3 i (by omega), o2 i (by omega), i4 i hi], fun t ht => ?_⟩, fun R KK => ?_⟩
  · rw [Nat.succ_mul] at ht
    by_cases c : t < j * lm_sn W.2.1
    · rw [o3 _ (by omega), o2 _ (by omega)]
      exact i5 t c
    · obtain ⟨i, rfl⟩ : ∃ i, t = j * lm_sn W.2.1 + i := ⟨t - j * lm_sn W.2.1, by omega⟩
      have hi : i < lm_sn W.2.1 := by omega
      rw [← Nat.add_assoc, v3 i hi]
      unfold lm_hsg
      rw [(lm_dmn hi).1, (lm_dmn hi).2]
      rfl
  · have eD : m2 202 j = Int32.ofNat (lm_dgt (lm_sn W.2.1) V j) := by rw [f2 202 (by decide) (by decide) (fun e => gp2 e.symm), i2 202 (by decide) (by decide) (fun e => gp2 e.symm), hD j hj]
    clear i5 v2 v3 o2 o3 i4 hD
    refine lm_e267_7 ?_
    unfold lm_q267_7
    rw [lm_K0, lm_K1, lm_K5, lm_oo]
    repeat (first
    | ((with_reducible apply lm_sI); exact rfl)
    | ((with_reducible apply lm_sR); exact rfl)
    | ((with_reducible apply lm_sS); exact rfl; exact rfl)
    | ((with_reducible apply lm_sL); exact rfl)
    | ((with_reducible apply lm_sP); exact rfl; exact rfl)
    | ((with_reducible apply lm_sPL); exact rfl; exact rfl)
    | ((with_reducible apply lm_sAA); exact rfl; exact rfl)
    | ((with_reducible apply lm_sA); (first | exact rfl | assumption); omega)
    | ((with_reducible apply lm_sJ); (first | exact rfl | assumption); omega)
    | ((with_reducible apply lm_sB); (first | exact rfl | assumption); omega)
    | ((with_reducible apply lm_wA); (first | exact rfl | assumption); omega)
    | ((with_reducible apply lm_wJ); (first | exact rfl | assumption); omega)
    | ((with_reducible apply lm_wB); (first | exact rfl | assumption); omega)
    | ((with_reducible apply lm_sAl); (first | exact rfl | assumption); omega)
    | ((with_reducible apply lm_iW); decide))
    simp only [Nat.reduceDiv, Nat.reduceMod]
    rw [i1.1.1.2.2.2.2.2.2.1]
    refine lm_geF (by omega) (by omega) (by omega) ?_
    repeat (first
    | ((with_reducible apply lm_sI); exact rfl)
    | ((with_reducible apply lm_sR); exact rfl)
    | ((with_reducible apply lm_sS); exact rfl; exact rfl)
    | ((with_reducible apply lm_sL); exact rfl)
    | ((with_reducible apply lm_sP); exact rfl; exact rfl)
    | ((with_reducible apply lm_sPL); exact rfl; exact rfl)
    | ((with_reducible apply lm_sAA); exact rfl; exact rfl)
    | ((with_reducible apply lm_sA); (first | exact rfl | assumption); omega)
    | ((with_reducible apply lm_sJ); (first | exact rfl | assumption); omega)
    | ((with_reducible apply lm_sB); (first | exact rfl | assumption); omega)
    | ((with_reducible apply lm_wA); (first | exact rfl | assumption); omega)
    | ((with_reducible apply lm_wJ); (first | exact rfl | assumption); omega)
    | ((with_reducible apply lm_wB); (first | exact rfl | assumption); omega)
    | ((with_reducible apply lm_sAl); (first | exact rfl | assumption); omega)
    | ((with_reducible apply lm_iW); decide))
    refine lm_cV c1 ?_
    repeat (first
    | ((with_reducible apply lm_sI); exact rfl)
    | ((with_reducible apply lm_sR); exact rfl)
    | ((with_reducible apply lm_sS); exact rfl; exact rfl)
    | ((with_reducible apply lm_sL); exact rfl)
    | ((with_reducible apply lm_sP); exact rfl; exact rfl)
    | ((with_reducible apply lm_sPL); exact rfl; exact rfl)
    | ((with_reducible apply lm_sAA); exact rfl; exact rfl)
    | ((with_reducible apply lm_sA); (first | exact rfl | assumption); omega)
    | ((with_reducible apply lm_sJ); (first | exact rfl | assumption); omega)
    | ((with_reducible apply lm_sB); (first | exact rfl | assumption); omega)
    | ((with_reducible apply lm_wA); (first | exact rfl | assumption); omega)
    | ((with_reducible apply lm_wJ); (first | exact rfl | assumption); omega)
    | ((with_reducible apply lm_wB); (first | exact rfl | assumption); omega)
    | ((with_reducible apply lm_sAl); (first | exact rfl | assumption); omega)
    | ((with_reducible apply lm_iW); decide))
    simp only [Nat.reduceDiv, Nat.reduceMod]
    rw [e1, i1.1.1.2.1, lm_om, lm_oo]
    refine lm_cV c2 ?_
    repeat (first
    | ((with_reducible apply lm_sI); exact rfl)
    | ((with_reducible apply lm_sR); exact rfl)
    | ((with_reducible apply lm_sS); exact rfl; exact rfl)
    | ((with_reducible apply lm_sL); exact rfl)
    | ((with_reducible apply lm_sP); exact rfl; exact rfl)
    | ((with_reducible apply lm_sPL); exact rfl; exact rfl)
    | ((with_reducible apply lm_sAA); exact rfl; exact rfl)
    | ((with_reducible apply lm_sA); (first | exact rfl | assumption); omega)
    | ((with_reducible apply lm_sJ); (first | exact rfl | assumption); omega)
    | ((with_reducible apply lm_sB); (first | exact rfl | assumption); omega)
    | ((with_reducible apply lm_wA); (first | exact rfl | assumption); omega)
    | ((with_reducible apply lm_wJ); (first | exact rfl | assumption); omega)
    | ((with_reducible apply lm_wB); (first | exact rfl | assumption); omega)
    | ((with_reducible apply lm_sAl); (first | exact rfl | assumption); omega)
    | ((with_reducible apply lm_iW); decide))
    simp only [Nat.reduceDiv, Nat.reduceMod]
    rw [eD, S2.1.1.2.1, lm_om, lm_oo]
    refine lm_cV c3 ?_
    exact KK
theorem lm_u267 (hC : lm_Cok xs W.1) (hs : W.2.1 ≤ 11) (h : lm_SX W m n) (hV : ∀ t, t < lm_sn W.2.1 → lm_b8 (m 197 t) = V t) (hp : lm_ar p = some (1, w)) (gp : 22 < p) (gp5 : p ≠ 195) (gp6 : p ≠ 196) (gp2 : p ≠ 202) (hbw : b + lm_cw W.2.1 * lm_sn W.2.1 ≤ w) (hw : w ≤ 70000) : ∃ m' n', lm_cal (lm_sc xs) (d + 6) 267 [.ref 194, .int u, .ref p, .int (Int32.ofNat b)] (lm_w m n x) = some (.ok none, lm_w m' n' x) ∧ lm_SX W m' n' ∧ (∀ r, (r < 5 ∨ 22 < r) → r ≠ 195 → r ≠ 202 → r ≠ p → m' r = m r) ∧ lm_fN m n m' n' ∧ (∀ i, i < b ∨ b + lm_cw W.2.1 * lm_sn W.2.1 ≤ i → m' p i = m p i) ∧ ∀ t, t < lm_cw W.2.1 * lm_sn W.2.1 → lm_b8 (m' p (b + t)) = lm_hsg W u V t := by
  have hpar := lm_spar _ hs
  have hcw := lm_cwn hs (j := 0) (by unfold lm_cw; omega)
  obtain ⟨m0, c0, f0, v0⟩ := lm_u306 (sc := lm_sc xs) (d := d + 4) (m := m) (n := n) (x := x) hpar.1 h.1.1.2.1 hV
  have S0 : lm_SX W m0 n := h.keep (f0 194 (by decide)) (f0 195 (by decide)) (f0 196 (by decide)) (fun r _ _ => f0 r (by omega)) (fun _ _ _ => rfl)
  obtain ⟨m1, n1, ⟨i1, i2, i3, i4, i5⟩, k1⟩ := lm_lp (fr := fun j => (7, [(0, .ref 194), (1, .int u), (2, .ref p), (3, .int (Int32.ofNat b)), (4, .int (Int32.ofNat j))], [])) (lm_l267 (u := u) (d := d) (x := x) (p := p) (b := b) (m0 := m0) (n0 := n) hC hs v0 hp gp gp5 gp6 gp2 hbw hw) (lm_cw W.2.1) 0 (Nat.zero_add _) m0 n ⟨S0, fun _ _ _ _ => rfl, lm_fN.rf, fun _ _ => rfl, fun t ht => absurd ht (by rw [Nat.zero_mul]; omega)⟩
  refine ⟨m1, n1, ?_, i1, fun r r1 r2 r3 r4 => by rw [i2 r r1 r2 r4, f0 r r3], ⟨i3.1, by rw [i3.2.1, f0 11 (by decide)], by rw [i3.2.2, f0 17 (by decide)]⟩, fun i hi => by rw [i4 i hi, f0 p gp2], i5⟩
  clear i5 i4 v0 hV
  refine lm_cal_of (Y := lm_m267) rfl rfl (lm_e267_0 ?_)
  unfold lm_q267_0
  rw [lm_K0]
  repeat (first
    | ((with_reducible apply lm_sI); exact rfl)
    | ((with_reducible apply lm_sR); exact rfl)
    | ((with_reducible apply lm_sS); exact rfl; exact rfl)
    | ((with_reducible apply lm_sL); exact rfl)
    | ((with_reducible apply lm_sP); exact rfl; exact rfl)
    | ((with_reducible apply lm_sPL); exact rfl; exact rfl)
    | ((with_reducible apply lm_sAA); exact rfl; exact rfl)
    | ((with_reducible apply lm_sA); (first | exact rfl | assumption); omega)
    | ((with_reducible apply lm_sJ); (first | exact rfl | assumption); omega)
    | ((with_reducible apply lm_sB); (first | exact rfl | assumption); omega)
    | ((with_reducible apply lm_wA); (first | exact rfl | assumption); omega)
    | ((with_reducible apply lm_wJ); (first | exact rfl | assumption); omega)
    | ((with_reducible apply lm_wB); (first | exact rfl | assumption); omega)
    | ((with_reducible apply lm_sAl); (first | exact rfl | assumption); omega)
    | ((with_reducible apply lm_iW); decide))
  refine lm_cV c0 ?_
  refine k1 _ ?_
  refine lm_e267_7 ?_
  unfold lm_q267_7
  repeat (first
    | ((with_reducible apply lm_sI); exact rfl)
    | ((with_reducible apply lm_sR); exact rfl)
    | ((with_reducible apply lm_sS); exact rfl; exact rfl)
    | ((with_reducible apply lm_sL); exact rfl)
    | ((with_reducible apply lm_sP); exact rfl; exact rfl)
    | ((with_reducible apply lm_sPL); exact rfl; exact rfl)
    | ((with_reducible apply lm_sAA); exact rfl; exact rfl)
    | ((with_reducible apply lm_sA); (first | exact rfl | assumption); omega)
    | ((with_reducible apply lm_sJ); (first | exact rfl | assumption); omega)
    | ((with_reducible apply lm_sB); (first | exact rfl | assumption); omega)
    | ((with_reducible apply lm_wA); (first | exact rfl | assumption); omega)
    | ((with_reducible apply lm_wJ); (first | exact rfl | assumption); omega)
    | ((with_reducible apply lm_wB); (first | exact rfl | assumption); omega)
    | ((with_reducible apply lm_sAl); (first | exact rfl | assumption); omega)
    | ((with_reducible apply lm_iW); decide))
  simp only [Nat.reduceDiv, Nat.reduceMod]
  rw [i1.1.1.2.2.2.2.2.2.1]
  exact lm_geT (by omega) (by omega) (Nat.le_refl _) rfl
end LMSW
