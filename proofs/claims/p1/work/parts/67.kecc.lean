/-! ===== Keccak-f, as the reference does it ===== -/
def lm_lft (v : Int64) (k : Int32) : Int64 := if k = 0 then v else (v <<< ((Int32.toInt64 k) &&& 63)) ||| (lm_uL v ((Int32.ofInt 64) - k))
/-- the columns: b of five -/
def lm_kc (s : Nat → Int64) (a : Nat) : Nat → Int64
  | 0 => Int64.ofNat 0
  | b + 1 => lm_kc s a b ^^^ s (a + 5 * b)
def lm_kT (s : Nat → Int64) (i : Nat) : Int64 := s i ^^^ (lm_kc s ((i % 5 + 4) % 5) 5 ^^^ lm_lft (lm_kc s ((i % 5 + 1) % 5) 5) (Int32.ofInt 1))
def lm_pa (j : Nat) : Nat := (3 * (j / 5) + j % 5) % 5
def lm_kP (tr : Nat → Int32) (s : Nat → Int64) (j : Nat) : Int64 := lm_lft (lm_kT s (lm_pa j + 5 * (j % 5))) (tr (lm_pa j + 5 * (j % 5)))
def lm_kX (o : Nat → Int64) (i : Nat) : Int64 := o i ^^^ ((o ((i % 5 + 1) % 5 + 5 * (i / 5)) ^^^ (Int64.ofNat 18446744073709551615)) &&& o ((i % 5 + 2) % 5 + 5 * (i / 5)))
def lm_kR (tr : Nat → Int32) (rc : Int64) (s : Nat → Int64) (i : Nat) : Int64 := if i < 25 then (if i = 0 then lm_kX (lm_kP tr s) i ^^^ rc else lm_kX (lm_kP tr s) i) else s i
/-- k rounds from t on -/
def lm_kF (tr : Nat → Int32) (rc : Nat → Int64) : Nat → Nat → (Nat → Int64) → Nat → Int64
  | 0, _, s => s
  | k + 1, t, s => lm_kF tr rc k (t + 1) (lm_kR tr (rc t) s)
section LMKE
variable {sc : lm_H} {d : Nat} {m : lm_MI} {x : lm_H × Nat × Nat} {n0 : lm_ML} {S : Nat → Int64}
theorem lm_u224 {v : Int64} {k : Int32} {σ : lm_S} : lm_cal sc (d + 1) 224 [.long v, .int k] σ = some (.ok (some (.long (lm_lft v k))), σ) := by
  refine lm_cal_of (Y := lm_m224) rfl rfl (lm_e224_0 ?_)
  unfold lm_q224_0 lm_lft
  by_cases h : k = 0
  · rw [if_pos h]
    exact lm_iF (show ¬ ¬ k = 0 from fun g => g h) rfl
  · rw [if_neg h]
    exact lm_iT (show ¬ k = 0 from h) rfl
def lm_fk (n0 n : lm_ML) : Prop := ∀ q, q ≠ 223 → q ≠ 224 → q ≠ 225 → n q = n0 q
theorem lm_fk.u {n : lm_ML} {q a : Nat} {v : Int64} (h : lm_fk n0 n) (hq : q = 223 ∨ q = 224 ∨ q = 225) : lm_fk n0 (lm_u n q a v) := fun p h1 h2 h3 => (lm_u_row (by omega)).trans (h p h1 h2 h3)
def lm_RK (m : lm_MI) (x : lm_H × Nat × Nat) (n0 : lm_ML) (S : Nat → Int64) (o : Option (Except Nat lm_R × lm_S)) : Prop := ∃ n', o = some (.ok none, lm_w m n' x) ∧ n' 223 = S ∧ lm_fk n0 n'
/-- a place has been done when its column is below A, or is A and its row is below B -/
def lm_dn (A B a b : Nat) : Bool := Nat.blt a A || (Nat.beq a A && Nat.blt b B)
theorem lm_dn_t {A B a b : Nat} (h : a < A ∨ (a = A ∧ b < B)) : lm_dn A B a b = true := by
  unfold lm_dn
  rcases h with h | ⟨h, g⟩
  · rw [Nat.blt_eq.mpr h, Bool.true_or]
  · rw [h, Nat.beq_refl, Nat.blt_eq.mpr g, Bool.true_and, Bool.or_true]
theorem lm_dn_f {A B a b : Nat} (h : ¬ (a < A ∨ (a = A ∧ b < B))) : lm_dn A B a b = false := by
  cases e : lm_dn A B a b with
  | false => rfl
  | true =>
    exfalso
    unfold lm_dn at e
    rw [Bool.or_eq_true, Bool.and_eq_true, Nat.blt_eq, Nat.blt_eq] at e
    rcases e with e | ⟨e, g⟩
    · exact h (Or.inl e)
    · exact h (Or.inr ⟨Nat.eq_of_beq_eq_true e, g⟩)
theorem lm_dn_iff {A B a b : Nat} : lm_dn A B a b = true ↔ (a < A ∨ (a = A ∧ b < B)) := by
  refine ⟨fun h => ?_, lm_dn_t⟩
  refine Classical.byContradiction fun g => ?_
  rw [lm_dn_f g] at h
  cases h
/-! chi -/
theorem lm_l154x {t : Nat} {o : Nat → Int64} {s : Nat → Int64} (ht : t < 24)
    (K : ∀ n, (∀ i, n 223 i = if i < 25 then (if i = 0 then lm_kX o i ^^^ n0 222 t else lm_kX o i) else s i) → lm_fk n0 n → lm_RK m x n0 S (lm_rn sc (d + 1) lm_m154.2.2.2.2.1 (lm_reg lm_m154.2.2.2.2.2) (2, [(0, .ref 203), (1, .int (Int32.ofNat (t + 1)))], []) (lm_w m n x))) :
    ∀ k A, A + k = 5 → ∀ n, (∀ i, i < 25 → n 224 i = o i) → (∀ i, i < 25 → lm_dn A 0 (i % 5) (i / 5) = true → n 223 i = lm_kX o i) → (∀ i, 25 ≤ i → n 223 i = s i) → lm_fk n0 n → lm_RK m x n0 S (lm_rn sc (d + 1) lm_m154.2.2.2.2.1 (lm_reg lm_m154.2.2.2.2.2) (193, [(0, .ref 203), (1, .int (Int32.ofNat t)), (2, .int (Int32.ofNat A))], []) (lm_w m n x)) := by
  intro k
  induction k with
  | zero =>
    intro A hA n h1 h2 h3 h4
    have hA : A = 5 := hA
    subst hA
    obtain ⟨n', e, f1, f2⟩ := K (lm_u n 223 0 (n 223 0 ^^^ n 222 t)) (fun i => by
      by_cases g : i < 25
      · rw [if_pos g]
        have h5 := h2 i g (lm_dn_t (Or.inl (Nat.mod_lt _ (by decide))))
        by_cases g0 : i = 0
        · subst g0
          rw [lm_u_eq, if_pos rfl, h5, h4 222 (by decide) (by decide) (by decide)]
        · rw [lm_u_ne (fun g2 => g0 g2.2), if_neg g0, h5]
      · rw [if_neg g, lm_u_ne (fun g2 => by omega)]
        exact h3 i (by omega)) (h4.u (Or.inl rfl))
    refine ⟨n', ?_, f1, f2⟩
    refine lm_e154_193 ?_
    unfold lm_q154_193
    rw [lm_K5, lm_K0]
    refine lm_geT (by decide) (by decide) (by decide) ?_
    repeat (first
    | ((with_reducible apply lm_sI); exact rfl)
    | ((with_reducible apply lm_sR); exact rfl)
    | ((with_reducible apply lm_sS); exact rfl; exact rfl)
    | ((with_reducible apply lm_sL); exact rfl)
    | ((with_reducible apply lm_sP); exact rfl; exact rfl)
    | ((with_reducible apply lm_sPL); exact rfl; exact rfl)
    | ((with_reducible apply lm_sAA); exact rfl; first | exact rfl | exact lm_roO (by omega) | exact lm_roM (by omega))
    | ((with_reducible apply lm_sI); exact lm_fpL (by omega))
    | ((with_reducible apply lm_sR); exact lm_fpB (by omega))
    | ((with_reducible apply lm_sP); exact lm_fpL (by omega); exact rfl)
    | ((with_reducible apply lm_sS); exact lm_ocO (by omega); exact rfl)
    | ((with_reducible apply lm_sA); exact rfl; omega)
    | ((with_reducible apply lm_sJ); exact rfl; omega)
    | ((with_reducible apply lm_sB); (first | exact rfl | exact lm_arB (by omega) | exact lm_arM (by omega)); omega)
    | ((with_reducible apply lm_wA); exact rfl; omega)
    | ((with_reducible apply lm_wJ); exact rfl; omega)
    | ((with_reducible apply lm_wB); (first | exact rfl | exact lm_arB (by omega) | exact lm_arM (by omega)); omega)
    | ((with_reducible apply lm_sAl); (first | exact rfl | exact lm_arB (by omega) | exact lm_arM (by omega)); omega)
    | ((with_reducible apply lm_iW); decide))
    rw [show Int32.ofNat t + Int32.ofInt 1 = Int32.ofNat (t + 1) from lm_oa t 1]
    exact e
  | succ k ih =>
    intro A hA n h1 h2 h3 h4
    have inner : ∀ k' B, B + k' = 5 → ∀ n, (∀ i, i < 25 → n 224 i = o i) → (∀ i, i < 25 → lm_dn A B (i % 5) (i / 5) = true → n 223 i = lm_kX o i) → (∀ i, 25 ≤ i → n 223 i = s i) → lm_fk n0 n → lm_RK m x n0 S (lm_rn sc (d + 1) lm_m154.2.2.2.2.1 (lm_reg lm_m154.2.2.2.2.2) (200, [(0, .ref 203), (1, .int (Int32.ofNat t)), (2, .int (Int32.ofNat A)), (3, .int (Int32.ofNat B))], []) (lm_w m n x)) := by
      intro k'
      induction k' with
      | zero =>
        intro B hB n h1 h2 h3 h4
        have hB : B = 5 := hB
        subst hB
        obtain ⟨n', e, f1, f2⟩ := ih (A + 1) (by omega) n h1 (fun i g g2 => h2 i g (by rw [lm_dn_iff] at g2 ⊢; omega)) h3 h4
        refine ⟨n', ?_, f1, f2⟩
        refine lm_e154_200 ?_
        unfold lm_q154_200
        rw [lm_K5, show Int32.ofNat A + Int32.ofInt 1 = Int32.ofNat (A + 1) from lm_oa A 1]
        exact lm_geT (by decide) (by decide) (by decide) e
      | succ k' ih' =>
        intro B hB n h1 h2 h3 h4
        have em : (A + 5 * B) % 5 = A := by omega
        have ed : (A + 5 * B) / 5 = B := by omega
        obtain ⟨n', e, f1, f2⟩ := ih' (B + 1) (by omega) (lm_u n 223 (A + 5 * B) (lm_kX o (A + 5 * B))) (fun i g => by rw [lm_u_row (by decide)]; exact h1 i g) (fun i g g2 => by
          by_cases c : i = A + 5 * B
          · rw [c, lm_u_eq]
          · rw [lm_u_ne (fun g3 => c g3.2)]
            refine h2 i g ?_
            rw [lm_dn_iff] at g2 ⊢
            omega) (fun i g => by rw [lm_u_ne (fun g3 => by omega)]; exact h3 i g) (h4.u (Or.inl rfl))
        refine ⟨n', ?_, f1, f2⟩
        refine lm_e154_200 ?_
        unfold lm_q154_200
        simp only [lm_K5, lm_K1, lm_K2, lm_om, lm_oo]
        rw [lm_orm (by omega) (by omega), lm_orm (by omega) (by omega), lm_oo, lm_oo]
        refine lm_geF (by omega) (by omega) (by omega) ?_
        repeat (first
    | ((with_reducible apply lm_sI); exact rfl)
    | ((with_reducible apply lm_sR); exact rfl)
    | ((with_reducible apply lm_sS); exact rfl; exact rfl)
    | ((with_reducible apply lm_sL); exact rfl)
    | ((with_reducible apply lm_sP); exact rfl; exact rfl)
    | ((with_reducible apply lm_sPL); exact rfl; exact rfl)
    | ((with_reducible apply lm_sAA); exact rfl; first | exact rfl | exact lm_roO (by omega) | exact lm_roM (by omega))
    | ((with_reducible apply lm_sI); exact lm_fpL (by omega))
    | ((with_reducible apply lm_sR); exact lm_fpB (by omega))
    | ((with_reducible apply lm_sP); exact lm_fpL (by omega); exact rfl)
    | ((with_reducible apply lm_sS); exact lm_ocO (by omega); exact rfl)
    | ((with_reducible apply lm_sA); exact rfl; omega)
    | ((with_reducible apply lm_sJ); exact rfl; omega)
    | ((with_reducible apply lm_sB); (first | exact rfl | exact lm_arB (by omega) | exact lm_arM (by omega)); omega)
    | ((with_reducible apply lm_wA); exact rfl; omega)
    | ((with_reducible apply lm_wJ); exact rfl; omega)
    | ((with_reducible apply lm_wB); (first | exact rfl | exact lm_arB (by omega) | exact lm_arM (by omega)); omega)
    | ((with_reducible apply lm_sAl); (first | exact rfl | exact lm_arB (by omega) | exact lm_arM (by omega)); omega)
    | ((with_reducible apply lm_iW); decide))
        rw [h1 (A + 5 * B) (by omega), h1 ((A + 1) % 5 + 5 * B) (by omega), h1 ((A + 2) % 5 + 5 * B) (by omega)]
        have ex : lm_kX o (A + 5 * B) = o (A + 5 * B) ^^^ ((o ((A + 1) % 5 + 5 * B) ^^^ (Int64.ofNat 18446744073709551615)) &&& o ((A + 2) % 5 + 5 * B)) := by
          unfold lm_kX
          rw [em, ed]
        rw [ex] at e
        exact e
    obtain ⟨n', e, f1, f2⟩ := inner 5 0 rfl n h1 h2 h3 h4
    refine ⟨n', ?_, f1, f2⟩
    refine lm_e154_193 ?_
    unfold lm_q154_193
    rw [lm_K5, lm_K0]
    exact lm_geF (by omega) (by omega) (by omega) e
/-! rho and pi -/
theorem lm_pa_all : ∀ A, A < 5 → ∀ B, B < 5 → lm_pa (B + 5 * ((2 * A + 3 * B) % 5)) = A := by decide
theorem lm_pa_inv : ∀ j, j < 25 → j % 5 + 5 * ((2 * lm_pa j + 3 * (j % 5)) % 5) = j := by decide
theorem lm_l154p {t : Nat} {s0 s : Nat → Int64} {o : Nat → Int64} (ho : ∀ j, j < 25 → o j = lm_lft (s (lm_pa j + 5 * (j % 5))) (m 221 (lm_pa j + 5 * (j % 5))))
    (K : ∀ n, (∀ i, i < 25 → n 224 i = o i) → (∀ i, 25 ≤ i → n 223 i = s0 i) → lm_fk n0 n → lm_RK m x n0 S (lm_rn sc (d + 1) lm_m154.2.2.2.2.1 (lm_reg lm_m154.2.2.2.2.2) (193, [(0, .ref 203), (1, .int (Int32.ofNat t)), (2, .int (Int32.ofNat 0))], []) (lm_w m n x))) :
    ∀ k A, A + k = 5 → ∀ n, (∀ i, i < 25 → n 223 i = s i) → (∀ j, j < 25 → lm_dn A 0 (lm_pa j) (j % 5) = true → n 224 j = o j) → (∀ i, 25 ≤ i → n 223 i = s0 i) → lm_fk n0 n → lm_RK m x n0 S (lm_rn sc (d + 1) lm_m154.2.2.2.2.1 (lm_reg lm_m154.2.2.2.2.2) (126, [(0, .ref 203), (1, .int (Int32.ofNat t)), (2, .int (Int32.ofNat A))], []) (lm_w m n x)) := by
  have pl : ∀ j, lm_pa j < 5 := fun j => Nat.mod_lt _ (by decide)
  intro k
  induction k with
  | zero =>
    intro A hA n h1 h2 h3 h4
    have hA : A = 5 := hA
    subst hA
    obtain ⟨n', e, f1, f2⟩ := K n (fun j hj => h2 j hj (lm_dn_t (Or.inl (pl j)))) h3 h4
    refine ⟨n', ?_, f1, f2⟩
    refine lm_e154_126 ?_
    unfold lm_q154_126
    rw [lm_K5, lm_K0]
    exact lm_geT (by decide) (by decide) (by decide) e
  | succ k ih =>
    intro A hA n h1 h2 h3 h4
    have inner : ∀ k' B, B + k' = 5 → ∀ n, (∀ i, i < 25 → n 223 i = s i) → (∀ j, j < 25 → lm_dn A B (lm_pa j) (j % 5) = true → n 224 j = o j) → (∀ i, 25 ≤ i → n 223 i = s0 i) → lm_fk n0 n → lm_RK m x n0 S (lm_rn sc (d + 1) lm_m154.2.2.2.2.1 (lm_reg lm_m154.2.2.2.2.2) (133, [(0, .ref 203), (1, .int (Int32.ofNat t)), (2, .int (Int32.ofNat A)), (3, .int (Int32.ofNat B))], []) (lm_w m n x)) := by
      intro k'
      induction k' with
      | zero =>
        intro B hB n h1 h2 h3 h4
        have hB : B = 5 := hB
        subst hB
        obtain ⟨n', e, f1, f2⟩ := ih (A + 1) (by omega) n h1 (fun i g g2 => h2 i g (by
          have := pl i
          have : i % 5 < 5 := Nat.mod_lt _ (by decide)
          rw [lm_dn_iff] at g2 ⊢; omega)) h3 h4
        refine ⟨n', ?_, f1, f2⟩
        refine lm_e154_133 ?_
        unfold lm_q154_133
        rw [lm_K5, show Int32.ofNat A + Int32.ofInt 1 = Int32.ofNat (A + 1) from lm_oa A 1]
        exact lm_geT (by decide) (by decide) (by decide) e
      | succ k' ih' =>
        intro B hB n h1 h2 h3 h4
        have hJ : B + 5 * ((2 * A + 3 * B) % 5) < 25 := by omega
        have ep : lm_pa (B + 5 * ((2 * A + 3 * B) % 5)) = A := lm_pa_all A (by omega) B (by omega)
        have eb : (B + 5 * ((2 * A + 3 * B) % 5)) % 5 = B := by omega
        have eo := ho _ hJ
        rw [ep, eb] at eo
        obtain ⟨n', e, f1, f2⟩ := ih' (B + 1) (by omega) (lm_u n 224 (B + 5 * ((2 * A + 3 * B) % 5)) (o (B + 5 * ((2 * A + 3 * B) % 5)))) (fun i g => by rw [lm_u_row (by decide)]; exact h1 i g) (fun j g g2 => by
          by_cases c : j = B + 5 * ((2 * A + 3 * B) % 5)
          · rw [c, lm_u_eq]
          · rw [lm_u_ne (fun g3 => c g3.2)]
            refine h2 j g ?_
            have g4 := pl j
            have g5 : j % 5 < 5 := Nat.mod_lt _ (by decide)
            rw [lm_dn_iff] at g2 ⊢
            have g6 : ¬ (lm_pa j = A ∧ j % 5 = B) := fun ⟨a1, a2⟩ => c (by rw [← a1, ← a2]; exact (lm_pa_inv j g).symm)
            omega) (fun i g => by rw [lm_u_row (by decide)]; exact h3 i g) (h4.u (Or.inr (Or.inl rfl)))
        refine ⟨n', ?_, f1, f2⟩
        refine lm_e154_133 ?_
        unfold lm_q154_133
        simp only [lm_K5, lm_K2, lm_K3, lm_om, lm_oo]
        rw [lm_orm (by omega) (by omega), lm_om, lm_oo]
        refine lm_geF (by omega) (by omega) (by omega) ?_
        repeat (first
    | ((with_reducible apply lm_sI); exact rfl)
    | ((with_reducible apply lm_sR); exact rfl)
    | ((with_reducible apply lm_sS); exact rfl; exact rfl)
    | ((with_reducible apply lm_sL); exact rfl)
    | ((with_reducible apply lm_sP); exact rfl; exact rfl)
    | ((with_reducible apply lm_sPL); exact rfl; exact rfl)
    | ((with_reducible apply lm_sAA); exact rfl; first | exact rfl | exact lm_roO (by omega) | exact lm_roM (by omega))
    | ((with_reducible apply lm_sI); exact lm_fpL (by omega))
    | ((with_reducible apply lm_sR); exact lm_fpB (by omega))
    | ((with_reducible apply lm_sP); exact lm_fpL (by omega); exact rfl)
    | ((with_reducible apply lm_sS); exact lm_ocO (by omega); exact rfl)
    | ((with_reducible apply lm_sA); exact rfl; omega)
    | ((with_reducible apply lm_sJ); exact rfl; omega)
    | ((with_reducible apply lm_sB); (first | exact rfl | exact lm_arB (by omega) | exact lm_arM (by omega)); omega)
    | ((with_reducible apply lm_wA); exact rfl; omega)
    | ((with_reducible apply lm_wJ); exact rfl; omega)
    | ((with_reducible apply lm_wB); (first | exact rfl | exact lm_arB (by omega) | exact lm_arM (by omega)); omega)
    | ((with_reducible apply lm_sAl); (first | exact rfl | exact lm_arB (by omega) | exact lm_arM (by omega)); omega)
    | ((with_reducible apply lm_iW); decide))
        refine lm_cLg lm_u224 ?_
        repeat (first
    | ((with_reducible apply lm_sI); exact rfl)
    | ((with_reducible apply lm_sR); exact rfl)
    | ((with_reducible apply lm_sS); exact rfl; exact rfl)
    | ((with_reducible apply lm_sL); exact rfl)
    | ((with_reducible apply lm_sP); exact rfl; exact rfl)
    | ((with_reducible apply lm_sPL); exact rfl; exact rfl)
    | ((with_reducible apply lm_sAA); exact rfl; first | exact rfl | exact lm_roO (by omega) | exact lm_roM (by omega))
    | ((with_reducible apply lm_sI); exact lm_fpL (by omega))
    | ((with_reducible apply lm_sR); exact lm_fpB (by omega))
    | ((with_reducible apply lm_sP); exact lm_fpL (by omega); exact rfl)
    | ((with_reducible apply lm_sS); exact lm_ocO (by omega); exact rfl)
    | ((with_reducible apply lm_sA); exact rfl; omega)
    | ((with_reducible apply lm_sJ); exact rfl; omega)
    | ((with_reducible apply lm_sB); (first | exact rfl | exact lm_arB (by omega) | exact lm_arM (by omega)); omega)
    | ((with_reducible apply lm_wA); exact rfl; omega)
    | ((with_reducible apply lm_wJ); exact rfl; omega)
    | ((with_reducible apply lm_wB); (first | exact rfl | exact lm_arB (by omega) | exact lm_arM (by omega)); omega)
    | ((with_reducible apply lm_sAl); (first | exact rfl | exact lm_arB (by omega) | exact lm_arM (by omega)); omega)
    | ((with_reducible apply lm_iW); decide))
        rw [h1 (A + 5 * B) (by omega), ← eo, show Int32.ofNat B + Int32.ofInt 1 = Int32.ofNat (B + 1) from lm_oa B 1]
        exact e
    obtain ⟨n', e, f1, f2⟩ := inner 5 0 rfl n h1 h2 h3 h4
    refine ⟨n', ?_, f1, f2⟩
    refine lm_e154_126 ?_
    unfold lm_q154_126
    rw [lm_K5, lm_K0]
    exact lm_geF (by omega) (by omega) (by omega) e
/-! theta -/
theorem lm_l154t {t : Nat} {s : Nat → Int64}
    (K : ∀ n, (∀ i, i < 25 → n 223 i = lm_kT s i) → (∀ i, 25 ≤ i → n 223 i = s i) → lm_fk n0 n → lm_RK m x n0 S (lm_rn sc (d + 1) lm_m154.2.2.2.2.1 (lm_reg lm_m154.2.2.2.2.2) (126, [(0, .ref 203), (1, .int (Int32.ofNat t)), (2, .int (Int32.ofNat 0))], []) (lm_w m n x))) :
    ∀ k A, A + k = 5 → ∀ n, (∀ a, a < 5 → n 225 a = lm_kc s a 5) → (∀ i, i < 25 → n 223 i = cond (lm_dn A 0 (i % 5) (i / 5)) (lm_kT s i) (s i)) → (∀ i, 25 ≤ i → n 223 i = s i) → lm_fk n0 n → lm_RK m x n0 S (lm_rn sc (d + 1) lm_m154.2.2.2.2.1 (lm_reg lm_m154.2.2.2.2.2) (62, [(0, .ref 203), (1, .int (Int32.ofNat t)), (2, .int (Int32.ofNat A))], []) (lm_w m n x)) := by
  intro k
  induction k with
  | zero =>
    intro A hA n h1 h2 h3 h4
    have hA : A = 5 := hA
    subst hA
    obtain ⟨n', e, f1, f2⟩ := K n (fun i hi => by rw [h2 i hi, lm_dn_t (Or.inl (Nat.mod_lt _ (by decide)))]; rfl) h3 h4
    refine ⟨n', ?_, f1, f2⟩
    refine lm_e154_62 ?_
    unfold lm_q154_62
    rw [lm_K5, lm_K0]
    exact lm_geT (by decide) (by decide) (by decide) e
  | succ k ih =>
    intro A hA n h1 h2 h3 h4
    have inner : ∀ k' B, B + k' = 5 → ∀ n, (∀ a, a < 5 → n 225 a = lm_kc s a 5) → (∀ i, i < 25 → n 223 i = cond (lm_dn A B (i % 5) (i / 5)) (lm_kT s i) (s i)) → (∀ i, 25 ≤ i → n 223 i = s i) → lm_fk n0 n → lm_RK m x n0 S (lm_rn sc (d + 1) lm_m154.2.2.2.2.1 (lm_reg lm_m154.2.2.2.2.2) (69, [(0, .ref 203), (1, .int (Int32.ofNat t)), (2, .int (Int32.ofNat A)), (3, .int (Int32.ofNat B))], []) (lm_w m n x)) := by
      intro k'
      induction k' with
      | zero =>
        intro B hB n h1 h2 h3 h4
        have hB : B = 5 := hB
        subst hB
        obtain ⟨n', e, f1, f2⟩ := ih (A + 1) (by omega) n h1 (fun i g => by
          rw [h2 i g]
          congr 1
          rw [Bool.eq_iff_iff, lm_dn_iff, lm_dn_iff]
          omega) h3 h4
        refine ⟨n', ?_, f1, f2⟩
        refine lm_e154_69 ?_
        unfold lm_q154_69
        rw [lm_K5, show Int32.ofNat A + Int32.ofInt 1 = Int32.ofNat (A + 1) from lm_oa A 1]
        exact lm_geT (by decide) (by decide) (by decide) e
      | succ k' ih' =>
        intro B hB n h1 h2 h3 h4
        have em : (A + 5 * B) % 5 = A := by omega
        have ed : (A + 5 * B) / 5 = B := by omega
        obtain ⟨n', e, f1, f2⟩ := ih' (B + 1) (by omega) (lm_u n 223 (A + 5 * B) (lm_kT s (A + 5 * B))) (fun i g => by rw [lm_u_row (by decide)]; exact h1 i g) (fun i g => by
          by_cases c : i = A + 5 * B
          · rw [c, lm_u_eq, em, ed, lm_dn_t (Or.inr ⟨rfl, by omega⟩)]
            rfl
          · rw [lm_u_ne (fun g3 => c g3.2), h2 i g]
            congr 1
            rw [Bool.eq_iff_iff, lm_dn_iff, lm_dn_iff]
            omega) (fun i g => by rw [lm_u_ne (fun g3 => by omega)]; exact h3 i g) (h4.u (Or.inl rfl))
        refine ⟨n', ?_, f1, f2⟩
        refine lm_e154_69 ?_
        unfold lm_q154_69
        simp only [lm_K5, lm_K4, lm_om, lm_oo]
        rw [show Int32.ofNat A + Int32.ofInt 1 = Int32.ofNat (A + 1) from lm_oa A 1, lm_orm (by omega) (by omega), lm_orm (by omega) (by omega)]
        refine lm_geF (by omega) (by omega) (by omega) ?_
        repeat (first
    | ((with_reducible apply lm_sI); exact rfl)
    | ((with_reducible apply lm_sR); exact rfl)
    | ((with_reducible apply lm_sS); exact rfl; exact rfl)
    | ((with_reducible apply lm_sL); exact rfl)
    | ((with_reducible apply lm_sP); exact rfl; exact rfl)
    | ((with_reducible apply lm_sPL); exact rfl; exact rfl)
    | ((with_reducible apply lm_sAA); exact rfl; first | exact rfl | exact lm_roO (by omega) | exact lm_roM (by omega))
    | ((with_reducible apply lm_sI); exact lm_fpL (by omega))
    | ((with_reducible apply lm_sR); exact lm_fpB (by omega))
    | ((with_reducible apply lm_sP); exact lm_fpL (by omega); exact rfl)
    | ((with_reducible apply lm_sS); exact lm_ocO (by omega); exact rfl)
    | ((with_reducible apply lm_sA); exact rfl; omega)
    | ((with_reducible apply lm_sJ); exact rfl; omega)
    | ((with_reducible apply lm_sB); (first | exact rfl | exact lm_arB (by omega) | exact lm_arM (by omega)); omega)
    | ((with_reducible apply lm_wA); exact rfl; omega)
    | ((with_reducible apply lm_wJ); exact rfl; omega)
    | ((with_reducible apply lm_wB); (first | exact rfl | exact lm_arB (by omega) | exact lm_arM (by omega)); omega)
    | ((with_reducible apply lm_sAl); (first | exact rfl | exact lm_arB (by omega) | exact lm_arM (by omega)); omega)
    | ((with_reducible apply lm_iW); decide))
        refine lm_cLg lm_u224 ?_
        repeat (first
    | ((with_reducible apply lm_sI); exact rfl)
    | ((with_reducible apply lm_sR); exact rfl)
    | ((with_reducible apply lm_sS); exact rfl; exact rfl)
    | ((with_reducible apply lm_sL); exact rfl)
    | ((with_reducible apply lm_sP); exact rfl; exact rfl)
    | ((with_reducible apply lm_sPL); exact rfl; exact rfl)
    | ((with_reducible apply lm_sAA); exact rfl; first | exact rfl | exact lm_roO (by omega) | exact lm_roM (by omega))
    | ((with_reducible apply lm_sI); exact lm_fpL (by omega))
    | ((with_reducible apply lm_sR); exact lm_fpB (by omega))
    | ((with_reducible apply lm_sP); exact lm_fpL (by omega); exact rfl)
    | ((with_reducible apply lm_sS); exact lm_ocO (by omega); exact rfl)
    | ((with_reducible apply lm_sA); exact rfl; omega)
    | ((with_reducible apply lm_sJ); exact rfl; omega)
    | ((with_reducible apply lm_sB); (first | exact rfl | exact lm_arB (by omega) | exact lm_arM (by omega)); omega)
    | ((with_reducible apply lm_wA); exact rfl; omega)
    | ((with_reducible apply lm_wJ); exact rfl; omega)
    | ((with_reducible apply lm_wB); (first | exact rfl | exact lm_arB (by omega) | exact lm_arM (by omega)); omega)
    | ((with_reducible apply lm_sAl); (first | exact rfl | exact lm_arB (by omega) | exact lm_arM (by omega)); omega)
    | ((with_reducible apply lm_iW); decide))
        rw [h2 (A + 5 * B) (by omega), em, ed, lm_dn_f (by omega), cond_false, h1 _ (Nat.mod_lt _ (by decide)), h1 _ (Nat.mod_lt _ (by decide)), show Int32.ofNat B + Int32.ofInt 1 = Int32.ofNat (B + 1) from lm_oa B 1]
        have ex : lm_kT s (A + 5 * B) = s (A + 5 * B) ^^^ (lm_kc s ((A + 4) % 5) 5 ^^^ lm_lft (lm_kc s ((A + 1) % 5) 5) (Int32.ofInt 1)) := by
          unfold lm_kT
          rw [em]
        rw [ex] at e
        exact e
    obtain ⟨n', e, f1, f2⟩ := inner 5 0 rfl n h1 h2 h3 h4
    refine ⟨n', ?_, f1, f2⟩
    refine lm_e154_62 ?_
    unfold lm_q154_62
    rw [lm_K5, lm_K0]
    exact lm_geF (by omega) (by omega) (by omega) e
/-! the columns -/
theorem lm_l154c {t : Nat} {s : Nat → Int64}
    (K : ∀ n, (∀ a, a < 5 → n 225 a = lm_kc s a 5) → n 223 = s → lm_fk n0 n → lm_RK m x n0 S (lm_rn sc (d + 1) lm_m154.2.2.2.2.1 (lm_reg lm_m154.2.2.2.2.2) (62, [(0, .ref 203), (1, .int (Int32.ofNat t)), (2, .int (Int32.ofNat 0))], []) (lm_w m n x))) :
    ∀ k A, A + k = 5 → ∀ n, (∀ a, a < A → n 225 a = lm_kc s a 5) → n 223 = s → lm_fk n0 n → lm_RK m x n0 S (lm_rn sc (d + 1) lm_m154.2.2.2.2.1 (lm_reg lm_m154.2.2.2.2.2) (10, [(0, .ref 203), (1, .int (Int32.ofNat t)), (2, .int (Int32.ofNat A))], []) (lm_w m n x)) := by
  intro k
  induction k with
  | zero =>
    intro A hA n h1 h2 h4
    have hA : A = 5 := hA
    subst hA
    obtain ⟨n', e, f1, f2⟩ := K n h1 h2 h4
    refine ⟨n', ?_, f1, f2⟩
    refine lm_e154_10 ?_
    unfold lm_q154_10
    rw [lm_K5, lm_K0]
    exact lm_geT (by decide) (by decide) (by decide) e
  | succ k ih =>
    intro A hA n h1 h2 h4
    have inner : ∀ k' B, B + k' = 5 → ∀ n, (∀ a, a < A → n 225 a = lm_kc s a 5) → n 225 A = lm_kc s A B → n 223 = s → lm_fk n0 n → lm_RK m x n0 S (lm_rn sc (d + 1) lm_m154.2.2.2.2.1 (lm_reg lm_m154.2.2.2.2.2) (24, [(0, .ref 203), (1, .int (Int32.ofNat t)), (2, .int (Int32.ofNat A)), (3, .int (Int32.ofNat B))], []) (lm_w m n x)) := by
      intro k'
      induction k' with
      | zero =>
        intro B hB n h1 h0 h2 h4
        have hB : B = 5 := hB
        subst hB
        obtain ⟨n', e, f1, f2⟩ := ih (A + 1) (by omega) n (fun a g => by
          by_cases c : a = A
          · rw [c]; exact h0
          · exact h1 a (by omega)) h2 h4
        refine ⟨n', ?_, f1, f2⟩
        refine lm_e154_24 ?_
        unfold lm_q154_24
        rw [lm_K5, show Int32.ofNat A + Int32.ofInt 1 = Int32.ofNat (A + 1) from lm_oa A 1]
        exact lm_geT (by decide) (by decide) (by decide) e
      | succ k' ih' =>
        intro B hB n h1 h0 h2 h4
        obtain ⟨n', e, f1, f2⟩ := ih' (B + 1) (by omega) (lm_u n 225 A (lm_kc s A B ^^^ s (A + 5 * B))) (fun a g => by rw [lm_u_ne (fun g3 => by omega)]; exact h1 a g) lm_u_eq (by rw [lm_u_row (by decide)]; exact h2) (h4.u (Or.inr (Or.inr rfl)))
        refine ⟨n', ?_, f1, f2⟩
        refine lm_e154_24 ?_
        unfold lm_q154_24
        simp only [lm_K5, lm_om, lm_oo]
        refine lm_geF (by omega) (by omega) (by omega) ?_
        repeat (first
    | ((with_reducible apply lm_sI); exact rfl)
    | ((with_reducible apply lm_sR); exact rfl)
    | ((with_reducible apply lm_sS); exact rfl; exact rfl)
    | ((with_reducible apply lm_sL); exact rfl)
    | ((with_reducible apply lm_sP); exact rfl; exact rfl)
    | ((with_reducible apply lm_sPL); exact rfl; exact rfl)
    | ((with_reducible apply lm_sAA); exact rfl; first | exact rfl | exact lm_roO (by omega) | exact lm_roM (by omega))
    | ((with_reducible apply lm_sI); exact lm_fpL (by omega))
    | ((with_reducible apply lm_sR); exact lm_fpB (by omega))
    | ((with_reducible apply lm_sP); exact lm_fpL (by omega); exact rfl)
    | ((with_reducible apply lm_sS); exact lm_ocO (by omega); exact rfl)
    | ((with_reducible apply lm_sA); exact rfl; omega)
    | ((with_reducible apply lm_sJ); exact rfl; omega)
    | ((with_reducible apply lm_sB); (first | exact rfl | exact lm_arB (by omega) | exact lm_arM (by omega)); omega)
    | ((with_reducible apply lm_wA); exact rfl; omega)
    | ((with_reducible apply lm_wJ); exact rfl; omega)
    | ((with_reducible apply lm_wB); (first | exact rfl | exact lm_arB (by omega) | exact lm_arM (by omega)); omega)
    | ((with_reducible apply lm_sAl); (first | exact rfl | exact lm_arB (by omega) | exact lm_arM (by omega)); omega)
    | ((with_reducible apply lm_iW); decide))
        rw [h0, h2, show Int32.ofNat B + Int32.ofInt 1 = Int32.ofNat (B + 1) from lm_oa B 1]
        exact e
    obtain ⟨n', e, f1, f2⟩ := inner 5 0 rfl (lm_u n 225 A (Int64.ofNat 0)) (fun a g => by rw [lm_u_ne (fun g3 => by omega)]; exact h1 a g) lm_u_eq (by rw [lm_u_row (by decide)]; exact h2) (h4.u (Or.inr (Or.inr rfl)))
    refine ⟨n', ?_, f1, f2⟩
    refine lm_e154_10 ?_
    unfold lm_q154_10
    rw [lm_K5, lm_K0]
    refine lm_geF (by omega) (by omega) (by omega) ?_
    repeat (first
    | ((with_reducible apply lm_sI); exact rfl)
    | ((with_reducible apply lm_sR); exact rfl)
    | ((with_reducible apply lm_sS); exact rfl; exact rfl)
    | ((with_reducible apply lm_sL); exact rfl)
    | ((with_reducible apply lm_sP); exact rfl; exact rfl)
    | ((with_reducible apply lm_sPL); exact rfl; exact rfl)
    | ((with_reducible apply lm_sAA); exact rfl; first | exact rfl | exact lm_roO (by omega) | exact lm_roM (by omega))
    | ((with_reducible apply lm_sI); exact lm_fpL (by omega))
    | ((with_reducible apply lm_sR); exact lm_fpB (by omega))
    | ((with_reducible apply lm_sP); exact lm_fpL (by omega); exact rfl)
    | ((with_reducible apply lm_sS); exact lm_ocO (by omega); exact rfl)
    | ((with_reducible apply lm_sA); exact rfl; omega)
    | ((with_reducible apply lm_sJ); exact rfl; omega)
    | ((with_reducible apply lm_sB); (first | exact rfl | exact lm_arB (by omega) | exact lm_arM (by omega)); omega)
    | ((with_reducible apply lm_wA); exact rfl; omega)
    | ((with_reducible apply lm_wJ); exact rfl; omega)
    | ((with_reducible apply lm_wB); (first | exact rfl | exact lm_arB (by omega) | exact lm_arM (by omega)); omega)
    | ((with_reducible apply lm_sAl); (first | exact rfl | exact lm_arB (by omega) | exact lm_arM (by omega)); omega)
    | ((with_reducible apply lm_iW); decide))
    exact e
/-! the rounds -/
theorem lm_l154 : ∀ k t, t + k = 24 → ∀ n, lm_fk n0 n → lm_RK m x n0 (lm_kF (m 221) (n0 222) k t (n 223)) (lm_rn sc (d + 1) lm_m154.2.2.2.2.1 (lm_reg lm_m154.2.2.2.2.2) (2, [(0, .ref 203), (1, .int (Int32.ofNat t))], []) (lm_w m n x)) := by
  intro k
  induction k with
  | zero =>
    intro t ht n h
    have ht : t = 24 := ht
    subst ht
    refine ⟨n, ?_, rfl, h⟩
    refine lm_e154_2 ?_
    unfold lm_q154_2
    rw [lm_K24]
    exact lm_geT (by decide) (by decide) (by decide) rfl
  | succ k ih =>
    intro t ht n h
    obtain ⟨n', e, f1, f2⟩ := lm_l154c (sc := sc) (d := d) (m := m) (x := x) (n0 := n0) (S := lm_kF (m 221) (n0 222) (k + 1) t (n 223)) (t := t) (s := n 223) (fun n1 a1 a2 a3 =>
      lm_l154t (s := n 223) (fun n2 b1 b2 b3 =>
        lm_l154p (s0 := n 223) (s := lm_kT (n 223)) (o := lm_kP (m 221) (n 223)) (fun j _ => rfl) (fun n3 c1 c2 c3 =>
          lm_l154x (s := n 223) (o := lm_kP (m 221) (n 223)) (by omega) (fun n4 d1 d2 => by
            have h9 := ih (t + 1) (by omega) n4 d2
            rw [show n4 223 = lm_kR (m 221) (n0 222 t) (n 223) from funext d1] at h9
            exact h9) 5 0 rfl n3 c1 (fun i _ g => by rw [lm_dn_iff] at g; omega) c2 c3) 5 0 rfl n2 b1 (fun j _ g => by rw [lm_dn_iff] at g; omega) b2 b3) 5 0 rfl n1 a1 (fun i hi => by rw [lm_dn_f (by omega), a2]; rfl) (fun i _ => by rw [a2]) a3) 5 0 rfl n (fun a ha => by omega) rfl h
    refine ⟨n', ?_, f1, f2⟩
    refine lm_e154_2 ?_
    unfold lm_q154_2
    rw [lm_K24, lm_K0]
    exact lm_geF (by omega) (by omega) (by omega) e
/-- permute -/
theorem lm_u154 {n : lm_ML} : lm_RK m x n (lm_kF (m 221) (n 222) 24 0 (n 223)) (lm_cal sc (d + 2) 154 [.ref 203] (lm_w m n x)) := by
  obtain ⟨n', e, f1, f2⟩ := lm_l154 (sc := sc) (d := d) (m := m) (x := x) (n0 := n) 24 0 rfl n (fun _ _ _ _ => rfl)
  refine ⟨n', ?_, f1, f2⟩
  refine lm_cal_of (Y := lm_m154) rfl rfl (lm_e154_0 ?_)
  unfold lm_q154_0
  rw [lm_K0]
  exact e
end LMKE
