/-! ===== encrypt of the class, whole ===== -/
theorem lm_pkB_at {F : Nat → Nat → Int} {d i j : Nat} (hj : j < 32 * d) : lm_pkB F d (32 * d * i + j) = ln_bv (lm_ts (fun c => (F i c).toNat) d) (8 * j) 8 := by
  unfold lm_pkB
  rw [Nat.mul_add_div (by omega), Nat.div_eq_of_lt hj, Nat.add_zero, Nat.mul_add_mod, Nat.mod_eq_of_lt hj]
theorem lm_apc_bnd' {S : Nat → Int} {F H : Nat → Nat → Int} {k : Nat} (hS : lm_bnd 3329 S) (hF : ∀ j, j < k → lm_bnd 4096 (F j)) (hH : ∀ j, j < k → lm_bnd 4096 (H j)) : lm_bnd (3329 + 40000000 * k) (lm_apc S F H k) := by
  have e : ∀ t, t ≤ k → lm_apc S (fun j => if j < k then F j else fun _ => 0) (fun j => if j < k then H j else fun _ => 0) t = lm_apc S F H t := by
    intro t
    induction t with
    | zero => intro _; rfl
    | succ t ih =>
      intro ht
      show lm_ap (lm_apc _ _ _ t) (if t < k then F t else fun _ => 0) (if t < k then H t else fun _ => 0) = lm_ap (lm_apc _ _ _ t) _ _
      rw [ih (by omega), if_pos (show t < k by omega), if_pos (show t < k by omega)]
  have z : lm_bnd 4096 (fun _ => 0) := fun c _ => by show -4096 ≤ (0 : Int) ∧ (0 : Int) ≤ 4096; decide
  have := lm_apc_bnd (S := S) (F := fun j => if j < k then F j else fun _ => 0) (H := fun j => if j < k then H j else fun _ => 0) hS (fun j => by
    by_cases c : j < k
    · rw [if_pos c]; exact hF j c
    · rw [if_neg c]; exact z) (fun j => by
    by_cases c : j < k
    · rw [if_pos c]; exact hH j c
    · rw [if_neg c]; exact z) k
  rw [e k (Nat.le_refl k)] at this
  exact this
/-- a polynomial of 12 bits out of bytes -/
def lm_T12 (K : Nat → Int32) (a j c : Nat) : Int := (ln_bv (ln_bt (fun t => K (a + 384 * j + t))) (c * 12) 12 : Nat)
theorem lm_T12_rg {K : Nat → Int32} {a j : Nat} : lm_rg 4095 (lm_T12 K a j) := fun c _ => by
  have := lm_bv_lt (s := ln_bt (fun t => K (a + 384 * j + t))) (a := c * 12) (d := 12)
  unfold lm_T12
  omega
def lm_bx (t : Nat → Int32) (c : Nat) : Nat := (ln_bt (fun j => t j) c).toNat
section LMEW
variable {xs : List Int32} {C : lm_CX} {d k e du dv q v a t w : Nat} {m m0 : lm_MI} {n n0 : lm_ML} {x : lm_H × Nat × Nat} {P : Nat → Int32}
/-- Y -/
def lm_I18 (C : lm_CX) (P : Nat → Int32) (e : Nat) (m0 : lm_MI) (n0 : lm_ML) (i : Nat) (m : lm_MI) (n : lm_ML) : Prop := (∀ r, (r < 5 ∨ 22 < r) → r ≠ 71 → r ≠ 72 → (r < 65 ∨ 68 < r) → m r = m0 r) ∧ lm_fN m0 n0 m n ∧ (∀ i', i' < i → ∀ c, c < 256 → m (65 + i') c = Int32.ofInt (lm_kS C P 32 e i' c))
theorem lm_l228a {at' : Int32} (hC : lm_Cok xs C) (h : lm_KP C P k e m) (he : e = 2 ∨ e = 3) (hk : k ≤ 4) : ∃ m' n', lm_I18 C P e m n k m' n' ∧ ∀ R, lm_rn (lm_sc xs) (d + 6) lm_m228.2.2.2.2.1 (lm_reg lm_m228.2.2.2.2.2) (18, [(0, .ref 44), (1, .ref q), (2, .int at'), (3, .ref t), (4, .int (Int32.ofNat k))], []) (lm_w m' n' x) = some R → lm_rn (lm_sc xs) (d + 6) lm_m228.2.2.2.2.1 (lm_reg lm_m228.2.2.2.2.2) (18, [(0, .ref 44), (1, .ref q), (2, .int at'), (3, .ref t), (4, .int (Int32.ofNat 0))], []) (lm_w m n x) = some R := by
  refine lm_lp (sc := lm_sc xs) (d := d + 6) (b := k) (hs := lm_m228.2.2.2.2.1) (code := lm_reg lm_m228.2.2.2.2.2) (x := x) (fr := fun i => (18, [(0, .ref 44), (1, .ref q), (2, .int at'), (3, .ref t), (4, .int (Int32.ofNat i))], [])) (I := fun i m' n' => lm_I18 C P e m n i m' n') (fun i hi m1 n1 ⟨g1, g2, g3⟩ => ?_) k 0 (by omega) m n ⟨fun _ _ _ _ _ => rfl, .rf, fun i' hi' => absurd hi' (by omega)⟩
  have h1 : lm_KP C P k e m1 := h.keep (g2.rt h.1) (g1 44 (by decide) (by decide) (by decide) (by decide)) (g1 45 (by decide) (by decide) (by decide) (by decide)) (g1 46 (by decide) (by decide) (by decide) (by decide)) (g1 73 (by decide) (by decide) (by decide) (by decide))
  obtain ⟨m2, n2, m3, c2, c3, f3, f2, gN, v3⟩ := lm_kns (xs := xs) (d := d + 1) (n := n1) (x := x) (p := 65 + i) (num := i) hC h1 he (lm_arV i (by omega)) (by omega)
  refine ⟨m3, n2, ⟨fun r r1 r2 r3 r4 => ?_, g2.tr gN, fun i' hi' c hc => ?_⟩, fun R K => lm_e228_18 ?_⟩
  · rw [f3 r r1 r2 r3 (by omega), g1 r r1 r2 r3 r4]
  · by_cases c0 : i' = i
    · subst c0
      exact v3 c hc
    · rw [f3 (65 + i') (by omega) (by omega) (by omega) (by omega)]
      exact g3 i' (by omega) c hc
  · unfold lm_q228_18
    repeat (first
    | ((with_reducible apply lm_sI); exact rfl)
    | ((with_reducible apply lm_sR); exact rfl)
    | ((with_reducible apply lm_sS); exact rfl; exact rfl)
    | ((with_reducible apply lm_sL); exact rfl)
    | ((with_reducible apply lm_sP); exact rfl; exact rfl)
    | ((with_reducible apply lm_sPL); exact rfl; exact rfl)
    | ((with_reducible apply lm_sAA); exact rfl; exact rfl)
    | ((with_reducible apply lm_sA); (first | exact rfl | assumption); omega)
    | ((with_reducible apply lm_sJ); (first | exact rfl | assumption); omega)
    | ((with_reducible apply lm_sB); (first | exact rfl | assumption); omega)
    | ((with_reducible apply lm_wA); (first | exact rfl | assumption); omega)
    | ((with_reducible apply lm_wJ); (first | exact rfl | assumption); omega)
    | ((with_reducible apply lm_wB); (first | exact rfl | assumption); omega)
    | ((with_reducible apply lm_sAl); (first | exact rfl | assumption); omega)
    | ((with_reducible apply lm_iW); decide))
    simp only [Nat.reduceDiv, Nat.reduceMod]
    rw [h1.2.2.1]
    refine lm_geF (by omega) (by omega) (by omega) ?_
    repeat (first
    | ((with_reducible apply lm_sI); exact rfl)
    | ((with_reducible apply lm_sR); exact rfl)
    | ((with_reducible apply lm_sS); exact rfl; exact rfl)
    | ((with_reducible apply lm_sL); exact rfl)
    | ((with_reducible apply lm_sP); exact rfl; exact rfl)
    | ((with_reducible apply lm_sPL); exact rfl; exact rfl)
    | ((with_reducible apply lm_sAA); exact rfl; exact rfl)
    | ((with_reducible apply lm_sA); (first | exact rfl | assumption); omega)
    | ((with_reducible apply lm_sJ); (first | exact rfl | assumption); omega)
    | ((with_reducible apply lm_sB); (first | exact rfl | assumption); omega)
    | ((with_reducible apply lm_wA); (first | exact rfl | assumption); omega)
    | ((with_reducible apply lm_wJ); (first | exact rfl | assumption); omega)
    | ((with_reducible apply lm_wB); (first | exact rfl | assumption); omega)
    | ((with_reducible apply lm_sAl); (first | exact rfl | assumption); omega)
    | ((with_reducible apply lm_iW); decide))
    refine lm_sAA rfl (lm_roV i (by omega)) ?_
    repeat (first
    | ((with_reducible apply lm_sI); exact rfl)
    | ((with_reducible apply lm_sR); exact rfl)
    | ((with_reducible apply lm_sS); exact rfl; exact rfl)
    | ((with_reducible apply lm_sL); exact rfl)
    | ((with_reducible apply lm_sP); exact rfl; exact rfl)
    | ((with_reducible apply lm_sPL); exact rfl; exact rfl)
    | ((with_reducible apply lm_sAA); exact rfl; exact rfl)
    | ((with_reducible apply lm_sA); (first | exact rfl | assumption); omega)
    | ((with_reducible apply lm_sJ); (first | exact rfl | assumption); omega)
    | ((with_reducible apply lm_sB); (first | exact rfl | assumption); omega)
    | ((with_reducible apply lm_wA); (first | exact rfl | assumption); omega)
    | ((with_reducible apply lm_wJ); (first | exact rfl | assumption); omega)
    | ((with_reducible apply lm_wB); (first | exact rfl | assumption); omega)
    | ((with_reducible apply lm_sAl); (first | exact rfl | assumption); omega)
    | ((with_reducible apply lm_iW); decide))
    simp only [Nat.reduceDiv, Nat.reduceMod]
    rw [h1.2.2.2.1]
    refine lm_cV c2 ?_
    repeat (first
    | ((with_reducible apply lm_sI); exact rfl)
    | ((with_reducible apply lm_sR); exact rfl)
    | ((with_reducible apply lm_sS); exact rfl; exact rfl)
    | ((with_reducible apply lm_sL); exact rfl)
    | ((with_reducible apply lm_sP); exact rfl; exact rfl)
    | ((with_reducible apply lm_sPL); exact rfl; exact rfl)
    | ((with_reducible apply lm_sAA); exact rfl; exact rfl)
    | ((with_reducible apply lm_sA); (first | exact rfl | assumption); omega)
    | ((with_reducible apply lm_sJ); (first | exact rfl | assumption); omega)
    | ((with_reducible apply lm_sB); (first | exact rfl | assumption); omega)
    | ((with_reducible apply lm_wA); (first | exact rfl | assumption); omega)
    | ((with_reducible apply lm_wJ); (first | exact rfl | assumption); omega)
    | ((with_reducible apply lm_wB); (first | exact rfl | assumption); omega)
    | ((with_reducible apply lm_sAl); (first | exact rfl | assumption); omega)
    | ((with_reducible apply lm_iW); decide))
    refine lm_sAA rfl (lm_roV i (by omega)) ?_
    repeat (first
    | ((with_reducible apply lm_sI); exact rfl)
    | ((with_reducible apply lm_sR); exact rfl)
    | ((with_reducible apply lm_sS); exact rfl; exact rfl)
    | ((with_reducible apply lm_sL); exact rfl)
    | ((with_reducible apply lm_sP); exact rfl; exact rfl)
    | ((with_reducible apply lm_sPL); exact rfl; exact rfl)
    | ((with_reducible apply lm_sAA); exact rfl; exact rfl)
    | ((with_reducible apply lm_sA); (first | exact rfl | assumption); omega)
    | ((with_reducible apply lm_sJ); (first | exact rfl | assumption); omega)
    | ((with_reducible apply lm_sB); (first | exact rfl | assumption); omega)
    | ((with_reducible apply lm_wA); (first | exact rfl | assumption); omega)
    | ((with_reducible apply lm_wJ); (first | exact rfl | assumption); omega)
    | ((with_reducible apply lm_wB); (first | exact rfl | assumption); omega)
    | ((with_reducible apply lm_sAl); (first | exact rfl | assumption); omega)
    | ((with_reducible apply lm_iW); decide))
    refine lm_cV c3 ?_
    rw [lm_K1, lm_oo]
    exact K
/-- the sum of a row of the turned matrix -/
theorem lm_l228p {i : Nat} {at' : Int32} {A : Nat → Nat → Int} (h : lm_KP C P k e m0) (hk : k ≤ 4) (hi : i < k) (hA : ∀ j, j < k → lm_rg 3328 (A j) ∧ ∀ c, c < 256 → m0 (48 + (j * k + i)) c = Int32.ofInt (A j c)) (hV : ∀ j, j < k → ∀ c, c < 256 → m0 (65 + j) c = Int32.ofInt (lm_kS C P 32 e j c)) (hS : lm_PA m0 m 69 (fun _ => 0)) : ∃ m', lm_PA m0 m' 69 (lm_eW C P e k A) ∧ ∀ R, lm_rn (lm_sc xs) (d + 6) lm_m228.2.2.2.2.1 (lm_reg lm_m228.2.2.2.2.2) (84, [(0, .ref 44), (1, .ref q), (2, .int at'), (3, .ref t), (4, .int (Int32.ofNat i)), (5, .int (Int32.ofNat k))], []) (lm_w m' n x) = some R → lm_rn (lm_sc xs) (d + 6) lm_m228.2.2.2.2.1 (lm_reg lm_m228.2.2.2.2.2) (84, [(0, .ref 44), (1, .ref q), (2, .int at'), (3, .ref t), (4, .int (Int32.ofNat i)), (5, .int (Int32.ofNat 0))], []) (lm_w m n x) = some R := by
  have hkk : k * k ≤ 16 := Nat.mul_le_mul hk hk
  obtain ⟨m', n', ⟨en, h1⟩, k1⟩ := lm_lp (sc := lm_sc xs) (d := d + 6) (b := k) (hs := lm_m228.2.2.2.2.1) (code := lm_reg lm_m228.2.2.2.2.2) (x := x) (fr := fun j => (84, [(0, .ref 44), (1, .ref q), (2, .int at'), (3, .ref t), (4, .int (Int32.ofNat i)), (5, .int (Int32.ofNat j))], [])) (I := fun j m' n' => n' = n ∧ lm_PA m0 m' 69 (lm_apc (fun _ => 0) A (fun j => lm_kS C P 32 e j) j)) (fun j hj m1 n1 ⟨en, h1⟩ => by
    subst en
    have hjk : j * k + k ≤ k * k := by
      rw [← Nat.succ_mul]
      exact Nat.mul_le_mul_right k hj
    obtain ⟨m2, c2, p2⟩ := lm_u220 (sc := lm_sc xs) (d := d + 5) (n := n1) (x := x) (f := 48 + (j * k + i)) (g := 65 + j) (F := A j) (H := lm_kS C P 32 e j) (lm_arK _ (by omega)) (lm_arV j (by omega)) (by omega) (by omega) (fun t ht => by rw [h1.1 46 (by decide)]; exact h.2.1.2 t ht) h1 (fun c hc => by rw [h1.1 _ (by omega)]; exact (hA j hj).2 c hc) (fun c hc => by rw [h1.1 _ (by omega)]; exact hV j hj c hc) ((hA j hj).1.bnd (by decide)) (lm_kS_rg.bnd (by decide))
    refine ⟨m2, n1, ⟨rfl, p2⟩, fun R K => lm_e228_84 ?_⟩
    have hk1 : m1 44 12 = Int32.ofNat k := by rw [h1.1 44 (by decide)]; exact h.2.2.1
    unfold lm_q228_84
    repeat (first
    | ((with_reducible apply lm_sI); exact rfl)
    | ((with_reducible apply lm_sR); exact rfl)
    | ((with_reducible apply lm_sS); exact rfl; exact rfl)
    | ((with_reducible apply lm_sL); exact rfl)
    | ((with_reducible apply lm_sP); exact rfl; exact rfl)
    | ((with_reducible apply lm_sPL); exact rfl; exact rfl)
    | ((with_reducible apply lm_sAA); exact rfl; exact rfl)
    | ((with_reducible apply lm_sA); (first | exact rfl | assumption); omega)
    | ((with_reducible apply lm_sJ); (first | exact rfl | assumption); omega)
    | ((with_reducible apply lm_sB); (first | exact rfl | assumption); omega)
    | ((with_reducible apply lm_wA); (first | exact rfl | assumption); omega)
    | ((with_reducible apply lm_wJ); (first | exact rfl | assumption); omega)
    | ((with_reducible apply lm_wB); (first | exact rfl | assumption); omega)
    | ((with_reducible apply lm_sAl); (first | exact rfl | assumption); omega)
    | ((with_reducible apply lm_iW); decide))
    simp only [Nat.reduceDiv, Nat.reduceMod]
    rw [hk1]
    refine lm_geF (by omega) (by omega) (by omega) ?_
    repeat (first
    | ((with_reducible apply lm_sI); exact rfl)
    | ((with_reducible apply lm_sR); exact rfl)
    | ((with_reducible apply lm_sS); exact rfl; exact rfl)
    | ((with_reducible apply lm_sL); exact rfl)
    | ((with_reducible apply lm_sP); exact rfl; exact rfl)
    | ((with_reducible apply lm_sPL); exact rfl; exact rfl)
    | ((with_reducible apply lm_sAA); exact rfl; exact rfl)
    | ((with_reducible apply lm_sA); (first | exact rfl | assumption); omega)
    | ((with_reducible apply lm_sJ); (first | exact rfl | assumption); omega)
    | ((with_reducible apply lm_sB); (first | exact rfl | assumption); omega)
    | ((with_reducible apply lm_wA); (first | exact rfl | assumption); omega)
    | ((with_reducible apply lm_wJ); (first | exact rfl | assumption); omega)
    | ((with_reducible apply lm_wB); (first | exact rfl | assumption); omega)
    | ((with_reducible apply lm_sAl); (first | exact rfl | assumption); omega)
    | ((with_reducible apply lm_iW); decide))
    simp only [Nat.reduceDiv, Nat.reduceMod]
    rw [hk1, lm_om, lm_oo]
    refine lm_sAA rfl (lm_roK _ (by omega)) ?_
    repeat (first
    | ((with_reducible apply lm_sI); exact rfl)
    | ((with_reducible apply lm_sR); exact rfl)
    | ((with_reducible apply lm_sS); exact rfl; exact rfl)
    | ((with_reducible apply lm_sL); exact rfl)
    | ((with_reducible apply lm_sP); exact rfl; exact rfl)
    | ((with_reducible apply lm_sPL); exact rfl; exact rfl)
    | ((with_reducible apply lm_sAA); exact rfl; exact rfl)
    | ((with_reducible apply lm_sA); (first | exact rfl | assumption); omega)
    | ((with_reducible apply lm_sJ); (first | exact rfl | assumption); omega)
    | ((with_reducible apply lm_sB); (first | exact rfl | assumption); omega)
    | ((with_reducible apply lm_wA); (first | exact rfl | assumption); omega)
    | ((with_reducible apply lm_wJ); (first | exact rfl | assumption); omega)
    | ((with_reducible apply lm_wB); (first | exact rfl | assumption); omega)
    | ((with_reducible apply lm_sAl); (first | exact rfl | assumption); omega)
    | ((with_reducible apply lm_iW); decide))
    refine lm_sAA rfl (lm_roV j (by omega)) ?_
    repeat (first
    | ((with_reducible apply lm_sI); exact rfl)
    | ((with_reducible apply lm_sR); exact rfl)
    | ((with_reducible apply lm_sS); exact rfl; exact rfl)
    | ((with_reducible apply lm_sL); exact rfl)
    | ((with_reducible apply lm_sP); exact rfl; exact rfl)
    | ((with_reducible apply lm_sPL); exact rfl; exact rfl)
    | ((with_reducible apply lm_sAA); exact rfl; exact rfl)
    | ((with_reducible apply lm_sA); (first | exact rfl | assumption); omega)
    | ((with_reducible apply lm_sJ); (first | exact rfl | assumption); omega)
    | ((with_reducible apply lm_sB); (first | exact rfl | assumption); omega)
    | ((with_reducible apply lm_wA); (first | exact rfl | assumption); omega)
    | ((with_reducible apply lm_wJ); (first | exact rfl | assumption); omega)
    | ((with_reducible apply lm_wB); (first | exact rfl | assumption); omega)
    | ((with_reducible apply lm_sAl); (first | exact rfl | assumption); omega)
    | ((with_reducible apply lm_iW); decide))
    refine lm_cV c2 ?_
    rw [lm_K1, lm_oo]
    exact K) k 0 (by omega) m n ⟨rfl, hS⟩
  subst en
  exact ⟨m', h1, k1⟩
theorem lm_eW_bnd {A : Nat → Nat → Int} (hk : k ≤ 4) (hA : ∀ j, j < k → lm_bnd 4096 (A j)) : lm_bnd 2147483647 (lm_eW C P e k A) := by
  intro c hc
  have := lm_apc_bnd' (S := fun _ => 0) (F := A) (H := fun j => lm_kS C P 32 e j) (k := k) (fun c _ => by show -3329 ≤ (0 : Int) ∧ (0 : Int) ≤ 3329; decide) hA (fun j _ => lm_kS_rg.bnd (by decide)) c hc
  unfold lm_eW
  omega
/-- what stays through the ciphertext's polynomials -/
def lm_I64 (C : lm_CX) (P : Nat → Int32) (e k du : Nat) (A : Nat → Nat → Nat → Int) (m0 : lm_MI) (n0 : lm_ML) (i : Nat) (m : lm_MI) (n : lm_ML) : Prop := (∀ r, (r < 5 ∨ 22 < r) → r ≠ 69 → r ≠ 70 → r ≠ 71 → r ≠ 72 → r ≠ 75 → m r = m0 r) ∧ lm_fN m0 n0 m n ∧ ∀ j, j < 32 * du * i → lm_yb (m 75 j) = lm_pkB (lm_eU C P e k du A) du j
theorem lm_l228b {at' : Int32} {A : Nat → Nat → Nat → Int} (hC : lm_Cok xs C) (h : lm_KP C P k e m) (hk : k ≤ 4) (h14 : m 44 14 = Int32.ofNat du) (hdu1 : 1 ≤ du) (hdu : du ≤ 11) (hsz : 32 * du * k ≤ 1568) (ht : lm_ar t = some (1, w)) (hw : 32 ≤ w) (ht2 : 22 < t ∧ t ≠ 69 ∧ t ≠ 70 ∧ t ≠ 71 ∧ t ≠ 72) (hA : ∀ i j, i < k → j < k → lm_rg 3328 (A i j) ∧ ∀ c, c < 256 → m (48 + (j * k + i)) c = Int32.ofInt (A i j c)) (hV : ∀ j, j < k → ∀ c, c < 256 → m (65 + j) c = Int32.ofInt (lm_kS C P 32 e j c)) : ∃ m' n', lm_I64 C P e k du A m n k m' n' ∧ ∀ R, lm_rn (lm_sc xs) (d + 6) lm_m228.2.2.2.2.1 (lm_reg lm_m228.2.2.2.2.2) (64, [(0, .ref 44), (1, .ref q), (2, .int at'), (3, .ref t), (4, .int (Int32.ofNat k))], []) (lm_w m' n' x) = some R → lm_rn (lm_sc xs) (d + 6) lm_m228.2.2.2.2.1 (lm_reg lm_m228.2.2.2.2.2) (64, [(0, .ref 44), (1, .ref q), (2, .int at'), (3, .ref t), (4, .int (Int32.ofNat 0))], []) (lm_w m n x) = some R := by
  refine lm_lp (sc := lm_sc xs) (d := d + 6) (b := k) (hs := lm_m228.2.2.2.2.1) (code := lm_reg lm_m228.2.2.2.2.2) (x := x) (fr := fun i => (64, [(0, .ref 44), (1, .ref q), (2, .int at'), (3, .ref t), (4, .int (Int32.ofNat i))], [])) (I := fun i m' n' => lm_I64 C P e k du A m n i m' n') (fun i hi m1 n1 ⟨g1, g2, g3⟩ => ?_) k 0 (by omega) m n ⟨fun _ _ _ _ _ _ _ => rfl, .rf, fun j hj => absurd hj (by omega)⟩
  have hkk : k * k ≤ 16 := Nat.mul_le_mul hk hk
  have h1 : lm_KP C P k e m1 := h.keep (g2.rt h.1) (g1 44 (by decide) (by decide) (by decide) (by decide) (by decide) (by decide)) (g1 45 (by decide) (by decide) (by decide) (by decide) (by decide) (by decide)) (g1 46 (by decide) (by decide) (by decide) (by decide) (by decide) (by decide)) (g1 73 (by decide) (by decide) (by decide) (by decide) (by decide) (by decide))
  obtain ⟨m2, c2, p2⟩ := lm_u287 (sc := lm_sc xs) (d := d + 5) (m := m1) (n := n1) (x := x) (p := 69) rfl
  have hjk : ∀ j, j < k → j * k + k ≤ k * k := fun j hj => by
    rw [← Nat.succ_mul]
    exact Nat.mul_le_mul_right k hj
  obtain ⟨m3, p3, k3⟩ := lm_l228p (xs := xs) (d := d) (q := q) (t := t) (at' := at') (n := n1) (x := x) (m0 := m1) (m := m2) (i := i) (A := A i) h1 hk hi (fun j hj => ⟨(hA i j hi hj).1, fun c hc => by
    have := hjk j hj
    rw [g1 _ (by omega) (by omega) (by omega) (by omega) (by omega) (by omega)]
    exact (hA i j hi hj).2 c hc⟩) (fun j hj c hc => by
    rw [g1 _ (by omega) (by omega) (by omega) (by omega) (by omega) (by omega)]
    exact hV j hj c hc) p2
  have h3 : lm_KP C P k e m3 := h1.keep ⟨by rw [p3.1 11 (by decide)]; exact h1.1.1, by rw [p3.1 17 (by decide)]; exact h1.1.2⟩ (p3.1 44 (by decide)) (p3.1 45 (by decide)) (p3.1 46 (by decide)) (p3.1 73 (by decide))
  have hi1 : 32 * du * i + 32 * du ≤ 32 * du * k := by
    rw [← Nat.mul_succ]
    exact Nat.mul_le_mul_left _ hi
  obtain ⟨m4, n4, c4, f4, g4, a4, b4⟩ := lm_u288 (xs := xs) (d := d) (n := n1) (x := x) (num := k + i) (bits := du) (a := 32 * du * i) (t := t) (v := w) hC h3 hk (by omega) hdu1 hdu (by omega) ht hw ht2 p3.2 (lm_eW_bnd hk fun j hj => (hA i j hi hj).1.bnd (by decide))
  refine ⟨m4, n4, ⟨fun r r1 r2 r3 r4 r5 r6 => ?_, ?_, fun j hj => ?_⟩, fun R K => lm_e228_64 ?_⟩
  · rw [f4 r r1 r2 r3 r4 r5 r6, p3.1 r r2, g1 r r1 r2 r3 r4 r5 r6]
  · exact g2.tr ((lm_fN.of (p3.1 11 (by decide)) (p3.1 17 (by decide))).tr g4)
  · rw [Nat.mul_succ] at hj
    by_cases c0 : j < 32 * du * i
    · rw [a4 j (by omega), p3.1 75 (by decide)]
      exact g3 j c0
    · have := b4 (j - 32 * du * i) (by omega)
      rw [show 32 * du * i + (j - 32 * du * i) = j by omega] at this
      have ef : (fun c => lm_co du (lm_eZ C P (k + i) (lm_eW C P e k (A i)) (fun c => if k + i = 2 * k then (ln_bt (fun j => m3 t j) c).toNat else 0) c).toNat) = fun c => (lm_eU C P e k du A i c).toNat := by
        funext c
        unfold lm_eU
        rw [Int.toNat_natCast, show (fun c => if k + i = 2 * k then (ln_bt (fun j => m3 t j) c).toNat else 0) = fun _ => 0 from funext fun c => if_neg (by omega)]
      rw [ef] at this
      rw [this, show lm_pkB (lm_eU C P e k du A) du j = lm_pkB (lm_eU C P e k du A) du (32 * du * i + (j - 32 * du * i)) by rw [show 32 * du * i + (j - 32 * du * i) = j by omega], lm_pkB_at (by omega)]
  · have e14 : m1 44 14 = Int32.ofNat du := by rw [g1 44 (by decide) (by decide) (by decide) (by decide) (by decide) (by decide)]; exact h14
    have e143 : m3 44 14 = Int32.ofNat du := by rw [p3.1 44 (by decide)]; exact e14
    clear hA
    unfold lm_q228_64
    repeat (first
    | ((with_reducible apply lm_sI); exact rfl)
    | ((with_reducible apply lm_sR); exact rfl)
    | ((with_reducible apply lm_sS); exact rfl; exact rfl)
    | ((with_reducible apply lm_sL); exact rfl)
    | ((with_reducible apply lm_sP); exact rfl; exact rfl)
    | ((with_reducible apply lm_sPL); exact rfl; exact rfl)
    | ((with_reducible apply lm_sAA); exact rfl; exact rfl)
    | ((with_reducible apply lm_sA); (first | exact rfl | assumption); omega)
    | ((with_reducible apply lm_sJ); (first | exact rfl | assumption); omega)
    | ((with_reducible apply lm_sB); (first | exact rfl | assumption); omega)
    | ((with_reducible apply lm_wA); (first | exact rfl | assumption); omega)
    | ((with_reducible apply lm_wJ); (first | exact rfl | assumption); omega)
    | ((with_reducible apply lm_wB); (first | exact rfl | assumption); omega)
    | ((with_reducible apply lm_sAl); (first | exact rfl | assumption); omega)
    | ((with_reducible apply lm_iW); decide))
    simp only [Nat.reduceDiv, Nat.reduceMod]
    rw [h1.2.2.1]
    refine lm_geF (by omega) (by omega) (by omega) ?_
    repeat (first
    | ((with_reducible apply lm_sI); exact rfl)
    | ((with_reducible apply lm_sR); exact rfl)
    | ((with_reducible apply lm_sS); exact rfl; exact rfl)
    | ((with_reducible apply lm_sL); exact rfl)
    | ((with_reducible apply lm_sP); exact rfl; exact rfl)
    | ((with_reducible apply lm_sPL); exact rfl; exact rfl)
    | ((with_reducible apply lm_sAA); exact rfl; exact rfl)
    | ((with_reducible apply lm_sA); (first | exact rfl | assumption); omega)
    | ((with_reducible apply lm_sJ); (first | exact rfl | assumption); omega)
    | ((with_reducible apply lm_sB); (first | exact rfl | assumption); omega)
    | ((with_reducible apply lm_wA); (first | exact rfl | assumption); omega)
    | ((with_reducible apply lm_wJ); (first | exact rfl | assumption); omega)
    | ((with_reducible apply lm_wB); (first | exact rfl | assumption); omega)
    | ((with_reducible apply lm_sAl); (first | exact rfl | assumption); omega)
    | ((with_reducible apply lm_iW); decide))
    refine lm_cV c2 ?_
    rw [lm_K0]
    refine k3 R (lm_e228_84 ?_)
    unfold lm_q228_84
    repeat (first
    | ((with_reducible apply lm_sI); exact rfl)
    | ((with_reducible apply lm_sR); exact rfl)
    | ((with_reducible apply lm_sS); exact rfl; exact rfl)
    | ((with_reducible apply lm_sL); exact rfl)
    | ((with_reducible apply lm_sP); exact rfl; exact rfl)
    | ((with_reducible apply lm_sPL); exact rfl; exact rfl)
    | ((with_reducible apply lm_sAA); exact rfl; exact rfl)
    | ((with_reducible apply lm_sA); (first | exact rfl | assumption); omega)
    | ((with_reducible apply lm_sJ); (first | exact rfl | assumption); omega)
    | ((with_reducible apply lm_sB); (first | exact rfl | assumption); omega)
    | ((with_reducible apply lm_wA); (first | exact rfl | assumption); omega)
    | ((with_reducible apply lm_wJ); (first | exact rfl | assumption); omega)
    | ((with_reducible apply lm_wB); (first | exact rfl | assumption); omega)
    | ((with_reducible apply lm_sAl); (first | exact rfl | assumption); omega)
    | ((with_reducible apply lm_iW); decide))
    simp only [Nat.reduceDiv, Nat.reduceMod]
    rw [h3.2.2.1]
    refine lm_geT (by omega) (by omega) (by omega) ?_
    repeat (first
    | ((with_reducible apply lm_sI); exact rfl)
    | ((with_reducible apply lm_sR); exact rfl)
    | ((with_reducible apply lm_sS); exact rfl; exact rfl)
    | ((with_reducible apply lm_sL); exact rfl)
    | ((with_reducible apply lm_sP); exact rfl; exact rfl)
    | ((with_reducible apply lm_sPL); exact rfl; exact rfl)
    | ((with_reducible apply lm_sAA); exact rfl; exact rfl)
    | ((with_reducible apply lm_sA); (first | exact rfl | assumption); omega)
    | ((with_reducible apply lm_sJ); (first | exact rfl | assumption); omega)
    | ((with_reducible apply lm_sB); (first | exact rfl | assumption); omega)
    | ((with_reducible apply lm_wA); (first | exact rfl | assumption); omega)
    | ((with_reducible apply lm_wJ); (first | exact rfl | assumption); omega)
    | ((with_reducible apply lm_wB); (first | exact rfl | assumption); omega)
    | ((with_reducible apply lm_sAl); (first | exact rfl | assumption); omega)
    | ((with_reducible apply lm_iW); decide))
    simp only [Nat.reduceDiv, Nat.reduceMod]
    rw [h3.2.2.1, e143, lm_K32, lm_oo, lm_om, lm_om]
    refine lm_cV c4 ?_
    rw [lm_K1, lm_oo]
    exact K
end LMEW
