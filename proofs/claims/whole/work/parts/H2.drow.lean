/-! ===== Dsa: the class's table, rows ===== -/
set_option maxRecDepth 100000 in
theorem lm_dm77 : ∀ k, k < 256 → lm_dm (fun _ _ => 0) 256 77 k = Int32.ofNat (1753 ^ lm_br 8 k % 8380417) := by decide +kernel
theorem lm_Con.dtb {m : lm_MI} {n : lm_ML} (h : lm_Con m n) : ∀ k, k < 256 → m 77 k = Int32.ofInt (lm_zd k) := by
  have key : ∀ (m1 m2 : lm_MI), (∀ j, m1 77 j = m2 77 j) → ∀ t j, lm_dm m1 t 77 j = lm_dm m2 t 77 j := by
    intro m1 m2 h t
    induction t with
    | zero => exact h
    | succ t ih =>
      intro j
      unfold lm_dm lm_u
      rw [ih j]
  intro k hk
  rw [h.2.2.1]
  unfold lm_m1s
  rw [lm_u_row (by decide), lm_u_row (by decide), key _ (fun _ _ => 0) (fun j => by rw [lm_km_row (by decide) (by decide), lm_u_row (by decide), lm_u_row (by decide), lm_u_row (by decide)]) 256 k, lm_dm77 k hk, lm_oN]
  rfl
set_option maxRecDepth 100000 in
theorem lm_arA : ∀ t, t < 56 → lm_ar (79 + t) = some (0, 256) := by decide
theorem lm_roA : ∀ t, t < 56 → ([80, 81, 82, 83, 84, 85, 86, 87, 88, 89, 90, 91, 92, 93, 94, 95, 96, 97, 98, 99, 100, 101, 102, 103, 104, 105, 106, 107, 108, 109, 110, 111, 112, 113, 114, 115, 116, 117, 118, 119, 120, 121, 122, 123, 124, 125, 126, 127, 128, 129, 130, 131, 132, 133, 134, 135] : List Nat)[t]? = some (79 + t + 1) := by decide
theorem lm_arS : ∀ t, t < 15 → lm_ar (136 + t) = some (0, 256) := by decide
theorem lm_roS : ∀ t, t < 15 → ([137, 138, 139, 140, 141, 142, 143, 144, 145, 146, 147, 148, 149, 150, 151] : List Nat)[t]? = some (136 + t + 1) := by decide
theorem lm_arT : ∀ t, t < 8 → lm_ar (152 + t) = some (0, 256) := by decide
theorem lm_roT : ∀ t, t < 8 → ([153, 154, 155, 156, 157, 158, 159, 160] : List Nat)[t]? = some (152 + t + 1) := by decide
section LMDR
variable {sc : lm_H} {d l : Nat} {m m0 : lm_MI} {n : lm_ML} {x : lm_H × Nat × Nat}
/-- one sum of multiplyRow -/
def lm_mr (A V : Nat → Nat → Int) (l j : Nat) : Int := ln_sg l (fun t => A t j * V t j)
theorem lm_mr_b {A V : Nat → Nat → Int} {j : Nat} (hl : l ≤ 7) (hA : ∀ t, t < l → lm_bnd 8380416 (A t)) (hV : ∀ t, t < l → lm_bnd 100000000 (V t)) (hj : j < 256) : -(7 * 838041600000000) ≤ lm_mr A V l j ∧ lm_mr A V l j ≤ 7 * 838041600000000 := by
  have : ∀ k, k ≤ l → -(k * 838041600000000 : Int) ≤ ln_sg k (fun t => A t j * V t j) ∧ ln_sg k (fun t => A t j * V t j) ≤ k * 838041600000000 := by
    intro k
    induction k with
    | zero => intro _; exact ⟨Int.le_refl _, Int.le_refl _⟩
    | succ k ih =>
      intro hk
      have h1 := ih (by omega)
      have h2 := lm_mulb (hA k (by omega) j hj) (hV k (by omega) j hj)
      have e : ln_sg (k + 1) (fun t => A t j * V t j) = ln_sg k (fun t => A t j * V t j) + A k j * V k j := rfl
      rw [e]
      have c : ((k + 1 : Nat) : Int) = (k : Int) + 1 := rfl
      rw [c, Int.add_mul]
      omega
  have h := this l (Nat.le_refl l)
  unfold lm_mr
  have : (l : Int) ≤ 7 := by omega
  omega
theorem lm_l237i {i j p x2 pl : Nat} {A V : Nat → Nat → Int} {rs : List Nat} {u : Nat} (h19 : m 76 19 = Int32.ofNat l) (hl : l ≤ 7) (hi : i < 8) (hj : j < 256) (hro : lm_roW 362 [] x2 = some (u, rs)) (hrs : ∀ t, t < l → rs[t]? = some (pl + t + 1)) (hpl : ∀ t, t < l → lm_ar (pl + t) = some (0, 256)) (hA : ∀ t, t < l → m (79 + (i * l + t)) j = Int32.ofInt (A t j)) (hV : ∀ t, t < l → m (pl + t) j = Int32.ofInt (V t j)) (bA : ∀ t, t < l → lm_bnd 8380416 (A t)) (bV : ∀ t, t < l → lm_bnd 100000000 (V t)) {R : Except Nat lm_R × lm_S} (K : lm_rn sc d lm_m237.2.2.2.2.1 (lm_reg lm_m237.2.2.2.2.2) (17, [(0, .ref 76), (1, .int (Int32.ofNat i)), (2, .ref x2), (3, .ref p), (4, .int (Int32.ofNat j)), (5, .long (Int64.ofInt (lm_mr A V l j))), (7, .int (Int32.ofNat l))], []) (lm_w m n x) = some R) : lm_rn sc d lm_m237.2.2.2.2.1 (lm_reg lm_m237.2.2.2.2.2) (17, [(0, .ref 76), (1, .int (Int32.ofNat i)), (2, .ref x2), (3, .ref p), (4, .int (Int32.ofNat j)), (5, .long (Int64.ofInt 0)), (7, .int (Int32.ofNat 0))], []) (lm_w m n x) = some R := by
  have hil : i * l ≤ 7 * 7 := Nat.mul_le_mul (by omega) hl
  obtain ⟨m', n', ⟨e1, e2⟩, h2⟩ := lm_lp (sc := sc) (d := d) (b := l) (hs := lm_m237.2.2.2.2.1) (code := lm_reg lm_m237.2.2.2.2.2) (x := x) (fr := fun t => (17, [(0, .ref 76), (1, .int (Int32.ofNat i)), (2, .ref x2), (3, .ref p), (4, .int (Int32.ofNat j)), (5, .long (Int64.ofInt (ln_sg t (fun t => A t j * V t j)))), (7, .int (Int32.ofNat t))], [])) (I := fun t m' n' => m' = m ∧ n' = n) (fun t ht m1 n1 ⟨e1, e2⟩ => by
    refine ⟨m, n, ⟨rfl, rfl⟩, fun R K => lm_e237_17 ?_⟩
    subst e1
    subst e2
    have a1 := lm_arA (i * l + t) (by omega)
    have a2 := hpl t ht
    have b1 := bA t ht j hj
    have b2 := bV t ht j hj
    unfold lm_q237_17
    repeat (first
    | ((with_reducible apply lm_sI); exact rfl)
    | ((with_reducible apply lm_sR); exact rfl)
    | ((with_reducible apply lm_sS); exact rfl; exact rfl)
    | ((with_reducible apply lm_sL); exact rfl)
    | ((with_reducible apply lm_sP); exact rfl; exact rfl)
    | ((with_reducible apply lm_sPL); exact rfl; exact rfl)
    | ((with_reducible apply lm_sAA); exact rfl; exact rfl)
    | ((with_reducible apply lm_sA); (first | exact rfl | assumption); omega)
    | ((with_reducible apply lm_sJ); (first | exact rfl | assumption); omega)
    | ((with_reducible apply lm_sB); (first | exact rfl | assumption); omega)
    | ((with_reducible apply lm_wA); (first | exact rfl | assumption); omega)
    | ((with_reducible apply lm_wJ); (first | exact rfl | assumption); omega)
    | ((with_reducible apply lm_wB); (first | exact rfl | assumption); omega)
    | ((with_reducible apply lm_sAl); (first | exact rfl | assumption); omega)
    | ((with_reducible apply lm_iW); decide))
    simp only [Nat.reduceDiv, Nat.reduceMod]
    rw [h19]
    refine lm_geF (by omega) (by omega) (by omega) ?_
    repeat (first
    | ((with_reducible apply lm_sI); exact rfl)
    | ((with_reducible apply lm_sR); exact rfl)
    | ((with_reducible apply lm_sS); exact rfl; exact rfl)
    | ((with_reducible apply lm_sL); exact rfl)
    | ((with_reducible apply lm_sP); exact rfl; exact rfl)
    | ((with_reducible apply lm_sPL); exact rfl; exact rfl)
    | ((with_reducible apply lm_sAA); exact rfl; exact rfl)
    | ((with_reducible apply lm_sA); (first | exact rfl | assumption); omega)
    | ((with_reducible apply lm_sJ); (first | exact rfl | assumption); omega)
    | ((with_reducible apply lm_sB); (first | exact rfl | assumption); omega)
    | ((with_reducible apply lm_wA); (first | exact rfl | assumption); omega)
    | ((with_reducible apply lm_wJ); (first | exact rfl | assumption); omega)
    | ((with_reducible apply lm_wB); (first | exact rfl | assumption); omega)
    | ((with_reducible apply lm_sAl); (first | exact rfl | assumption); omega)
    | ((with_reducible apply lm_iW); decide))
    simp only [Nat.reduceDiv, Nat.reduceMod]
    rw [h19, lm_om, lm_oo]
    refine lm_sAA rfl (lm_roA (i * l + t) (by omega)) ?_
    repeat (first
    | ((with_reducible apply lm_sI); exact rfl)
    | ((with_reducible apply lm_sR); exact rfl)
    | ((with_reducible apply lm_sS); exact rfl; exact rfl)
    | ((with_reducible apply lm_sL); exact rfl)
    | ((with_reducible apply lm_sP); exact rfl; exact rfl)
    | ((with_reducible apply lm_sPL); exact rfl; exact rfl)
    | ((with_reducible apply lm_sAA); exact rfl; exact rfl)
    | ((with_reducible apply lm_sA); (first | exact rfl | assumption); omega)
    | ((with_reducible apply lm_sJ); (first | exact rfl | assumption); omega)
    | ((with_reducible apply lm_sB); (first | exact rfl | assumption); omega)
    | ((with_reducible apply lm_wA); (first | exact rfl | assumption); omega)
    | ((with_reducible apply lm_wJ); (first | exact rfl | assumption); omega)
    | ((with_reducible apply lm_wB); (first | exact rfl | assumption); omega)
    | ((with_reducible apply lm_sAl); (first | exact rfl | assumption); omega)
    | ((with_reducible apply lm_iW); decide))
    refine lm_sAA hro (hrs t ht) ?_
    repeat (first
    | ((with_reducible apply lm_sI); exact rfl)
    | ((with_reducible apply lm_sR); exact rfl)
    | ((with_reducible apply lm_sS); exact rfl; exact rfl)
    | ((with_reducible apply lm_sL); exact rfl)
    | ((with_reducible apply lm_sP); exact rfl; exact rfl)
    | ((with_reducible apply lm_sPL); exact rfl; exact rfl)
    | ((with_reducible apply lm_sAA); exact rfl; exact rfl)
    | ((with_reducible apply lm_sA); (first | exact rfl | assumption); omega)
    | ((with_reducible apply lm_sJ); (first | exact rfl | assumption); omega)
    | ((with_reducible apply lm_sB); (first | exact rfl | assumption); omega)
    | ((with_reducible apply lm_wA); (first | exact rfl | assumption); omega)
    | ((with_reducible apply lm_wJ); (first | exact rfl | assumption); omega)
    | ((with_reducible apply lm_wB); (first | exact rfl | assumption); omega)
    | ((with_reducible apply lm_sAl); (first | exact rfl | assumption); omega)
    | ((with_reducible apply lm_iW); decide))
    rw [hA t ht, hV t ht, lm_il (by omega) (by omega), lm_il (by omega) (by omega), lm_LM, lm_LA, lm_K1, lm_oo]
    exact K) l 0 (by omega) m n ⟨rfl, rfl⟩
  subst e1
  subst e2
  exact h2 R K
/-- multiplyRow -/
theorem lm_u237 {i p x2 pl : Nat} {A V : Nat → Nat → Int} {rs : List Nat} {u : Nat} (hp : lm_ar p = some (0, 256)) (h19 : m 76 19 = Int32.ofNat l) (hl : l ≤ 7) (hi : i < 8) (hp2 : 150 < p) (hpp : pl + l ≤ p ∨ p < pl) (hro : lm_roW 362 [] x2 = some (u, rs)) (hrs : ∀ t, t < l → rs[t]? = some (pl + t + 1)) (hpl : ∀ t, t < l → lm_ar (pl + t) = some (0, 256)) (hA : ∀ t, t < l → ∀ j, j < 256 → m (79 + (i * l + t)) j = Int32.ofInt (A t j)) (hV : ∀ t, t < l → ∀ j, j < 256 → m (pl + t) j = Int32.ofInt (V t j)) (bA : ∀ t, t < l → lm_bnd 8380416 (A t)) (bV : ∀ t, t < l → lm_bnd 100000000 (V t)) : ∃ m', lm_cal sc (d + 1) 237 [.ref 76, .int (Int32.ofNat i), .ref x2, .ref p] (lm_w m n x) = some (.ok none, lm_w m' n x) ∧ lm_PA m m' p (fun j => (lm_mr A V l j).tmod 8380417) := by
  have hil : i * l ≤ 7 * 7 := Nat.mul_le_mul (by omega) hl
  obtain ⟨m', n', ⟨hn, h0, h1⟩, h2⟩ := lm_lp (sc := sc) (d := d) (b := 256) (hs := lm_m237.2.2.2.2.1) (code := lm_reg lm_m237.2.2.2.2.2) (x := x) (fr := fun j => (3, [(0, .ref 76), (1, .int (Int32.ofNat i)), (2, .ref x2), (3, .ref p), (4, .int (Int32.ofNat j))], [])) (I := fun j m' n' => n' = n ∧ (∀ q, q ≠ p → m' q = m q) ∧ ∀ j', j' < j → m' p j' = Int32.ofInt ((lm_mr A V l j').tmod 8380417)) (fun j hj m1 n1 ⟨en, h0, h1⟩ => by
    have b := lm_mr_b hl bA bV hj
    have e19 : m1 76 19 = Int32.ofNat l := by rw [h0 76 (by omega)]; exact h19
    refine ⟨lm_u m1 p j (Int32.ofInt ((lm_mr A V l j).tmod 8380417)), n1, ⟨en, fun q hq => (lm_u_row hq).trans (h0 q hq), fun j' hj' => ?_⟩, fun R K => lm_e237_3 ?_⟩
    · by_cases c : j' = j
      · subst c; rw [lm_u_eq]
      · rw [lm_u_ne (by omega)]; exact h1 j' (by omega)
    · unfold lm_q237_3
      rw [lm_K256]
      refine lm_geF (by omega) (by omega) (by omega) ?_
      rw [lm_LN, lm_K0]
      refine lm_l237i (m := m1) (A := A) (V := V) (pl := pl) e19 hl hi hj hro hrs hpl (fun t ht => by rw [h0 _ (by omega)]; exact hA t ht j hj) (fun t ht => by rw [h0 _ (by omega)]; exact hV t ht j hj) bA bV (lm_e237_17 ?_)
      unfold lm_q237_17
      repeat (first
    | ((with_reducible apply lm_sI); exact rfl)
    | ((with_reducible apply lm_sR); exact rfl)
    | ((with_reducible apply lm_sS); exact rfl; exact rfl)
    | ((with_reducible apply lm_sL); exact rfl)
    | ((with_reducible apply lm_sP); exact rfl; exact rfl)
    | ((with_reducible apply lm_sPL); exact rfl; exact rfl)
    | ((with_reducible apply lm_sAA); exact rfl; exact rfl)
    | ((with_reducible apply lm_sA); (first | exact rfl | assumption); omega)
    | ((with_reducible apply lm_sJ); (first | exact rfl | assumption); omega)
    | ((with_reducible apply lm_sB); (first | exact rfl | assumption); omega)
    | ((with_reducible apply lm_wA); (first | exact rfl | assumption); omega)
    | ((with_reducible apply lm_wJ); (first | exact rfl | assumption); omega)
    | ((with_reducible apply lm_wB); (first | exact rfl | assumption); omega)
    | ((with_reducible apply lm_sAl); (first | exact rfl | assumption); omega)
    | ((with_reducible apply lm_iW); decide))
      simp only [Nat.reduceDiv, Nat.reduceMod]
      rw [e19]
      refine lm_geT (by omega) (by omega) (by omega) ?_
      repeat (first
    | ((with_reducible apply lm_sI); exact rfl)
    | ((with_reducible apply lm_sR); exact rfl)
    | ((with_reducible apply lm_sS); exact rfl; exact rfl)
    | ((with_reducible apply lm_sL); exact rfl)
    | ((with_reducible apply lm_sP); exact rfl; exact rfl)
    | ((with_reducible apply lm_sPL); exact rfl; exact rfl)
    | ((with_reducible apply lm_sAA); exact rfl; exact rfl)
    | ((with_reducible apply lm_sA); (first | exact rfl | assumption); omega)
    | ((with_reducible apply lm_sJ); (first | exact rfl | assumption); omega)
    | ((with_reducible apply lm_sB); (first | exact rfl | assumption); omega)
    | ((with_reducible apply lm_wA); (first | exact rfl | assumption); omega)
    | ((with_reducible apply lm_wJ); (first | exact rfl | assumption); omega)
    | ((with_reducible apply lm_wB); (first | exact rfl | assumption); omega)
    | ((with_reducible apply lm_sAl); (first | exact rfl | assumption); omega)
    | ((with_reducible apply lm_iW); decide))
      rw [lm_LN, lm_LR (by omega) (by omega) (by decide) (by decide), ln_li, lm_K1, lm_oo]
      exact K) 256 0 (by omega) m n ⟨rfl, fun _ _ => rfl, fun j' hj' => absurd hj' (by omega)⟩
  subst hn
  refine ⟨m', ?_, h0, h1⟩
  refine lm_cal_of (Y := lm_m237) rfl rfl (lm_e237_0 ?_)
  unfold lm_q237_0
  rw [lm_K0]
  refine h2 _ (lm_e237_3 ?_)
  unfold lm_q237_3
  rw [lm_K256]
  exact lm_geT (by omega) (by omega) (by omega) rfl
end LMDR
