/-! ===== the reference's constants ===== -/
/-- how many primes there are below -/
def lm_cn : Nat → Nat
  | 0 => 0
  | p + 1 => lm_cn p + cond (Nat.ble 2 p && lm_prim p) 1 0
theorem lm_cn_mono {p q : Nat} (h : q ≤ p) : lm_cn q ≤ lm_cn p := by
  induction p with
  | zero => rw [Nat.le_zero.mp h]; exact Nat.le_refl _
  | succ p ih =>
    by_cases e : q = p + 1
    · rw [e]; exact Nat.le_refl _
    · exact Nat.le_trans (ih (by omega)) (Nat.le_add_right _ _)
theorem lm_cn_lt {p q : Nat} (h : q < p) (h2 : 2 ≤ q) (hp : lm_prim q = true) : lm_cn q < lm_cn p := by
  refine Nat.lt_of_lt_of_le ?_ (lm_cn_mono h)
  show lm_cn q < lm_cn q + cond (Nat.ble 2 q && lm_prim q) 1 0
  rw [hp, Nat.ble_eq.mpr h2]
  exact Nat.lt_succ_self _
set_option maxRecDepth 100000 in
theorem lm_cn409 : lm_cn 409 = 79 := by decide +kernel
set_option maxRecDepth 100000 in
theorem lm_cn410 : lm_cn 410 = 80 := by decide +kernel
/-- roots and cubes are laid for the primes below p -/
def lm_CR (n : lm_ML) (p : Nat) : Prop := ∀ q, 2 ≤ q → q < p → lm_prim q = true → n 216 (lm_cn q) = Int64.ofNat (lm_rt q 3) ∧ (lm_cn q < 16 → n 215 (lm_cn q) = Int64.ofNat (lm_rt q 2))
def lm_f4 (n0 n : lm_ML) : Prop := ∀ q, q ≠ 215 → q ≠ 216 → q ≠ 219 → q ≠ 220 → n q = n0 q
def lm_RC (x : lm_H × Nat × Nat) (Q : lm_MI → lm_ML → Prop) (o : Option (Except Nat lm_R × lm_S)) : Prop := ∃ m' n', o = some (.ok none, lm_w m' n' x) ∧ Q m' n'
section LMCO
variable {sc : lm_H} {d : Nat} {m : lm_MI} {x : lm_H × Nat × Nat} {n0 : lm_ML} {Q : lm_MI → lm_ML → Prop}
theorem lm_f4.u {n : lm_ML} {q a : Nat} {v : Int64} (h : lm_f4 n0 n) (hq : q = 215 ∨ q = 216) : lm_f4 n0 (lm_u n q a v) := fun p h1 h2 h3 h4 => (lm_u_row (by omega)).trans (h p h1 h2 h3 h4)
theorem lm_f4.t {n n' : lm_ML} (h : lm_f4 n0 n) (h' : lm_f2 n n') : lm_f4 n0 n' := fun p h1 h2 h3 h4 => (h' p h3 h4).trans (h p h1 h2 h3 h4)
theorem lm_CR.t {n n' : lm_ML} {p : Nat} (h : lm_CR n p) (h' : lm_f2 n n') : lm_CR n' p := fun q a b c => by rw [h' 216 (by decide) (by decide), h' 215 (by decide) (by decide)]; exact h q a b c
theorem lm_l47a (K : ∀ n, lm_CR n 410 → lm_f4 n0 n → lm_RC x Q (lm_rn sc (d + 3) lm_m47.2.2.2.2.1 (lm_reg lm_m47.2.2.2.2.2) (66, [(0, .ref 203), (2, .int (Int32.ofNat 1)), (3, .int (Int32.ofNat 0)), (4, .int (Int32.ofNat 0))], []) (lm_w m n x))) :
    ∀ k p (n : lm_ML), p + k = 410 → 2 ≤ p → lm_CR n p → lm_f4 n0 n → lm_RC x Q (lm_rn sc (d + 3) lm_m47.2.2.2.2.1 (lm_reg lm_m47.2.2.2.2.2) (4, [(0, .ref 203), (1, .int (Int32.ofNat (lm_cn p))), (2, .int (Int32.ofNat p))], []) (lm_w m n x)) := by
  intro k
  induction k with
  | zero =>
    intro p n hp _ h1 h2
    have hp : p = 410 := hp
    subst hp
    obtain ⟨m', n', e, f⟩ := K n h1 h2
    refine ⟨m', n', ?_, f⟩
    refine lm_e47_4 ?_
    unfold lm_q47_4
    rw [lm_cn410]
    simp only [lm_K80, lm_K1, lm_K0]
    exact lm_geT (by decide) (by decide) (by decide) e
  | succ k ih =>
    intro p n hp hp2 h1 h2
    have hc : lm_cn p ≤ 79 := by rw [← lm_cn409]; exact lm_cn_mono (by omega)
    cases hv : lm_prim p with
    | false =>
      have ec : lm_cn (p + 1) = lm_cn p := by
        show lm_cn p + cond (Nat.ble 2 p && lm_prim p) 1 0 = _
        rw [hv, Bool.and_false]
        rfl
      obtain ⟨m', n', e, f⟩ := ih (p + 1) n (by omega) (by omega) (fun q a b c => h1 q a (by
        by_cases g : q = p
        · rw [g, hv] at c; cases c
        · omega) c) h2
      refine ⟨m', n', ?_, f⟩
      refine lm_e47_4 ?_
      unfold lm_q47_4
      rw [lm_K80]
      refine lm_geF (by omega) (by omega) (by omega) ?_
      refine lm_cI (lm_u127 (d := d + 2) (by omega)) ?_
      rw [hv]
      refine lm_iF (show ¬ ¬ (0 : Int32) = 0 by decide) ?_
      refine lm_e47_53 ?_
      unfold lm_q47_53
      rw [show Int32.ofNat p + Int32.ofInt 1 = Int32.ofNat (p + 1) from lm_oa p 1]
      rw [ec] at e
      exact e
    | true =>
      have ec : lm_cn (p + 1) = lm_cn p + 1 := by
        show lm_cn p + cond (Nat.ble 2 p && lm_prim p) 1 0 = _
        rw [hv, Nat.ble_eq.mpr hp2]
        rfl
      -- the cube, behind whatever was done to the roots
      have cube : ∀ n1 : lm_ML, lm_CR n1 p → lm_f4 n0 n1 → (lm_cn p < 16 → n1 215 (lm_cn p) = Int64.ofNat (lm_rt p 2)) → lm_RC x Q (lm_rn sc (d + 3) lm_m47.2.2.2.2.1 (lm_reg lm_m47.2.2.2.2.2) (38, [(0, .ref 203), (1, .int (Int32.ofNat (lm_cn p))), (2, .int (Int32.ofNat p))], []) (lm_w m n1 x)) := by
        intro n1 g1 g2 g3
        obtain ⟨n2, c2, f2⟩ := lm_u128 (sc := sc) (d := d + 1) (m := m) (x := x) (n := n1) (N := p) (T := 3) (by omega) (by omega) (by omega)
        obtain ⟨m', n', e, f⟩ := ih (p + 1) (lm_u n2 216 (lm_cn p) (Int64.ofNat (lm_rt p 3))) (by omega) (by omega) (fun q a b c => by
          by_cases g : q = p
          · subst g
            rw [lm_u_eq, lm_u_row (by decide), f2 215 (by decide) (by decide)]
            exact ⟨rfl, g3⟩
          · have hlt := lm_cn_lt (show q < p by omega) a c
            rw [lm_u_ne (fun g2 => by omega), lm_u_row (by decide), f2 215 (by decide) (by decide), f2 216 (by decide) (by decide)]
            exact g1 q a (by omega) c) ((g2.t f2).u (Or.inr rfl))
        refine ⟨m', n', ?_, f⟩
        refine lm_e47_38 ?_
        unfold lm_q47_38
        rw [lm_K3]
        repeat (first
    | ((with_reducible apply lm_sI); exact rfl)
    | ((with_reducible apply lm_sR); exact rfl)
    | ((with_reducible apply lm_sS); exact rfl; exact rfl)
    | ((with_reducible apply lm_sL); exact rfl)
    | ((with_reducible apply lm_sP); exact rfl; exact rfl)
    | ((with_reducible apply lm_sPL); exact rfl; exact rfl)
    | ((with_reducible apply lm_sAA); exact rfl; first | exact rfl | exact lm_roO (by omega) | exact lm_roM (by omega))
    | ((with_reducible apply lm_sI); exact lm_fpL (by omega))
    | ((with_reducible apply lm_sR); exact lm_fpB (by omega))
    | ((with_reducible apply lm_sP); exact lm_fpL (by omega); exact rfl)
    | ((with_reducible apply lm_sS); exact lm_ocO (by omega); exact rfl)
    | ((with_reducible apply lm_sA); exact rfl; omega)
    | ((with_reducible apply lm_sJ); exact rfl; omega)
    | ((with_reducible apply lm_sB); (first | exact rfl | exact lm_arB (by omega) | exact lm_arM (by omega)); omega)
    | ((with_reducible apply lm_wA); exact rfl; omega)
    | ((with_reducible apply lm_wJ); exact rfl; omega)
    | ((with_reducible apply lm_wB); (first | exact rfl | exact lm_arB (by omega) | exact lm_arM (by omega)); omega)
    | ((with_reducible apply lm_sAl); (first | exact rfl | exact lm_arB (by omega) | exact lm_arM (by omega)); omega)
    | ((with_reducible apply lm_iW); decide))
        refine lm_cLg c2 ?_
        repeat (first
    | ((with_reducible apply lm_sI); exact rfl)
    | ((with_reducible apply lm_sR); exact rfl)
    | ((with_reducible apply lm_sS); exact rfl; exact rfl)
    | ((with_reducible apply lm_sL); exact rfl)
    | ((with_reducible apply lm_sP); exact rfl; exact rfl)
    | ((with_reducible apply lm_sPL); exact rfl; exact rfl)
    | ((with_reducible apply lm_sAA); exact rfl; first | exact rfl | exact lm_roO (by omega) | exact lm_roM (by omega))
    | ((with_reducible apply lm_sI); exact lm_fpL (by omega))
    | ((with_reducible apply lm_sR); exact lm_fpB (by omega))
    | ((with_reducible apply lm_sP); exact lm_fpL (by omega); exact rfl)
    | ((with_reducible apply lm_sS); exact lm_ocO (by omega); exact rfl)
    | ((with_reducible apply lm_sA); exact rfl; omega)
    | ((with_reducible apply lm_sJ); exact rfl; omega)
    | ((with_reducible apply lm_sB); (first | exact rfl | exact lm_arB (by omega) | exact lm_arM (by omega)); omega)
    | ((with_reducible apply lm_wA); exact rfl; omega)
    | ((with_reducible apply lm_wJ); exact rfl; omega)
    | ((with_reducible apply lm_wB); (first | exact rfl | exact lm_arB (by omega) | exact lm_arM (by omega)); omega)
    | ((with_reducible apply lm_sAl); (first | exact rfl | exact lm_arB (by omega) | exact lm_arM (by omega)); omega)
    | ((with_reducible apply lm_iW); decide))
        refine lm_e47_53 ?_
        unfold lm_q47_53
        rw [show Int32.ofNat p + Int32.ofInt 1 = Int32.ofNat (p + 1) from lm_oa p 1, show Int32.ofNat (lm_cn p) + Int32.ofInt 1 = Int32.ofNat (lm_cn p + 1) from lm_oa _ 1]
        rw [ec] at e
        exact e
      by_cases h16 : 16 ≤ lm_cn p
      · obtain ⟨m', n', e, f⟩ := cube n h1 h2 (fun g => by omega)
        refine ⟨m', n', ?_, f⟩
        refine lm_e47_4 ?_
        unfold lm_q47_4
        rw [lm_K80, lm_K16]
        refine lm_geF (by omega) (by omega) (by omega) ?_
        refine lm_cI (lm_u127 (d := d + 2) (by omega)) ?_
        rw [hv]
        refine lm_iT (show ¬ (1 : Int32) = 0 by decide) ?_
        exact lm_geT (by omega) (by omega) h16 e
      · obtain ⟨n2, c2, f2⟩ := lm_u128 (sc := sc) (d := d + 1) (m := m) (x := x) (n := n) (N := p) (T := 2) (by omega) (by omega) (by omega)
        obtain ⟨m', n', e, f⟩ := cube (lm_u n2 215 (lm_cn p) (Int64.ofNat (lm_rt p 2))) (fun q a b c => by
          have hlt := lm_cn_lt b a c
          rw [lm_u_row (by decide), lm_u_ne (fun g2 => by omega), f2 215 (by decide) (by decide), f2 216 (by decide) (by decide)]
          exact h1 q a b c) ((h2.t f2).u (Or.inl rfl)) (fun _ => lm_u_eq)
        refine ⟨m', n', ?_, f⟩
        refine lm_e47_4 ?_
        unfold lm_q47_4
        rw [lm_K80, lm_K16, lm_K2]
        refine lm_geF (by omega) (by omega) (by omega) ?_
        refine lm_cI (lm_u127 (d := d + 2) (by omega)) ?_
        rw [hv]
        refine lm_iT (show ¬ (1 : Int32) = 0 by decide) ?_
        refine lm_geF (by omega) (by omega) h16 ?_
        repeat (first
    | ((with_reducible apply lm_sI); exact rfl)
    | ((with_reducible apply lm_sR); exact rfl)
    | ((with_reducible apply lm_sS); exact rfl; exact rfl)
    | ((with_reducible apply lm_sL); exact rfl)
    | ((with_reducible apply lm_sP); exact rfl; exact rfl)
    | ((with_reducible apply lm_sPL); exact rfl; exact rfl)
    | ((with_reducible apply lm_sAA); exact rfl; first | exact rfl | exact lm_roO (by omega) | exact lm_roM (by omega))
    | ((with_reducible apply lm_sI); exact lm_fpL (by omega))
    | ((with_reducible apply lm_sR); exact lm_fpB (by omega))
    | ((with_reducible apply lm_sP); exact lm_fpL (by omega); exact rfl)
    | ((with_reducible apply lm_sS); exact lm_ocO (by omega); exact rfl)
    | ((with_reducible apply lm_sA); exact rfl; omega)
    | ((with_reducible apply lm_sJ); exact rfl; omega)
    | ((with_reducible apply lm_sB); (first | exact rfl | exact lm_arB (by omega) | exact lm_arM (by omega)); omega)
    | ((with_reducible apply lm_wA); exact rfl; omega)
    | ((with_reducible apply lm_wJ); exact rfl; omega)
    | ((with_reducible apply lm_wB); (first | exact rfl | exact lm_arB (by omega) | exact lm_arM (by omega)); omega)
    | ((with_reducible apply lm_sAl); (first | exact rfl | exact lm_arB (by omega) | exact lm_arM (by omega)); omega)
    | ((with_reducible apply lm_iW); decide))
        refine lm_cLg c2 ?_
        repeat (first
    | ((with_reducible apply lm_sI); exact rfl)
    | ((with_reducible apply lm_sR); exact rfl)
    | ((with_reducible apply lm_sS); exact rfl; exact rfl)
    | ((with_reducible apply lm_sL); exact rfl)
    | ((with_reducible apply lm_sP); exact rfl; exact rfl)
    | ((with_reducible apply lm_sPL); exact rfl; exact rfl)
    | ((with_reducible apply lm_sAA); exact rfl; first | exact rfl | exact lm_roO (by omega) | exact lm_roM (by omega))
    | ((with_reducible apply lm_sI); exact lm_fpL (by omega))
    | ((with_reducible apply lm_sR); exact lm_fpB (by omega))
    | ((with_reducible apply lm_sP); exact lm_fpL (by omega); exact rfl)
    | ((with_reducible apply lm_sS); exact lm_ocO (by omega); exact rfl)
    | ((with_reducible apply lm_sA); exact rfl; omega)
    | ((with_reducible apply lm_sJ); exact rfl; omega)
    | ((with_reducible apply lm_sB); (first | exact rfl | exact lm_arB (by omega) | exact lm_arM (by omega)); omega)
    | ((with_reducible apply lm_wA); exact rfl; omega)
    | ((with_reducible apply lm_wJ); exact rfl; omega)
    | ((with_reducible apply lm_wB); (first | exact rfl | exact lm_arB (by omega) | exact lm_arM (by omega)); omega)
    | ((with_reducible apply lm_sAl); (first | exact rfl | exact lm_arB (by omega) | exact lm_arM (by omega)); omega)
    | ((with_reducible apply lm_iW); decide))
        exact e
/-! the turns -/
def lm_ab : Nat → Nat × Nat
  | 0 => (1, 0)
  | t + 1 => ((lm_ab t).2, (2 * (lm_ab t).1 + 3 * (lm_ab t).2) % 5)
def lm_tm (m : lm_MI) : Nat → lm_MI
  | 0 => m
  | t + 1 => lm_u (lm_tm m t) 221 ((lm_ab t).1 + 5 * (lm_ab t).2) (Int32.ofNat ((t + 1) * (t + 2) / 2 % 64))
theorem lm_ab_lt : ∀ t, (lm_ab t).1 < 5 ∧ (lm_ab t).2 < 5 := by
  intro t
  induction t with
  | zero => exact ⟨by decide, by decide⟩
  | succ t ih => exact ⟨ih.2, Nat.mod_lt _ (by decide)⟩
theorem lm_l47b {n : lm_ML} (K : lm_RC x Q (lm_rn sc d lm_m47.2.2.2.2.1 (lm_reg lm_m47.2.2.2.2.2) (122, [(0, .ref 203), (4, .int (Int32.ofNat 0))], []) (lm_w (lm_tm m 24) n x))) :
    ∀ k t, t + k = 24 → lm_RC x Q (lm_rn sc d lm_m47.2.2.2.2.1 (lm_reg lm_m47.2.2.2.2.2) (66, [(0, .ref 203), (2, .int (Int32.ofNat (lm_ab t).1)), (3, .int (Int32.ofNat (lm_ab t).2)), (4, .int (Int32.ofNat t))], []) (lm_w (lm_tm m t) n x)) := by
  intro k
  induction k with
  | zero =>
    intro t ht
    have ht : t = 24 := ht
    subst ht
    obtain ⟨m', n', e, f⟩ := K
    refine ⟨m', n', ?_, f⟩
    refine lm_e47_66 ?_
    unfold lm_q47_66
    simp only [lm_K24, lm_K0]
    exact lm_geT (by decide) (by decide) (by decide) e
  | succ k ih =>
    intro t ht
    obtain ⟨m', n', e, f⟩ := ih (t + 1) (by omega)
    refine ⟨m', n', ?_, f⟩
    obtain ⟨a1, a2⟩ := lm_ab_lt t
    have hq : (t + 1) * (t + 2) ≤ 24 * 25 := Nat.mul_le_mul (by omega) (by omega)
    refine lm_e47_66 ?_
    unfold lm_q47_66
    simp only [lm_K24, lm_K5, lm_K1, lm_K2, lm_K3, lm_K64, lm_om, lm_oo]
    refine lm_geF (by omega) (by omega) (by omega) ?_
    repeat (first
    | ((with_reducible apply lm_sI); exact rfl)
    | ((with_reducible apply lm_sR); exact rfl)
    | ((with_reducible apply lm_sS); exact rfl; exact rfl)
    | ((with_reducible apply lm_sL); exact rfl)
    | ((with_reducible apply lm_sP); exact rfl; exact rfl)
    | ((with_reducible apply lm_sPL); exact rfl; exact rfl)
    | ((with_reducible apply lm_sAA); exact rfl; first | exact rfl | exact lm_roO (by omega) | exact lm_roM (by omega))
    | ((with_reducible apply lm_sI); exact lm_fpL (by omega))
    | ((with_reducible apply lm_sR); exact lm_fpB (by omega))
    | ((with_reducible apply lm_sP); exact lm_fpL (by omega); exact rfl)
    | ((with_reducible apply lm_sS); exact lm_ocO (by omega); exact rfl)
    | ((with_reducible apply lm_sA); exact rfl; omega)
    | ((with_reducible apply lm_sJ); exact rfl; omega)
    | ((with_reducible apply lm_sB); (first | exact rfl | exact lm_arB (by omega) | exact lm_arM (by omega)); omega)
    | ((with_reducible apply lm_wA); exact rfl; omega)
    | ((with_reducible apply lm_wJ); exact rfl; omega)
    | ((with_reducible apply lm_wB); (first | exact rfl | exact lm_arB (by omega) | exact lm_arM (by omega)); omega)
    | ((with_reducible apply lm_sAl); (first | exact rfl | exact lm_arB (by omega) | exact lm_arM (by omega)); omega)
    | ((with_reducible apply lm_iW); decide))
    rw [lm_od (by omega) (by omega), lm_orm (by omega) (by omega), lm_orm (by omega) (by omega)]
    exact e
/-! the bits -/
def lm_bs : Nat → Nat
  | 0 => 1
  | t + 1 => if lm_bs t < 128 then 2 * lm_bs t else (2 * lm_bs t) % 256 ^^^ 113
def lm_bit (t : Nat) : Nat := lm_bs (t % 255) % 2
theorem lm_bs_lt : ∀ t, lm_bs t < 256 := by
  intro t
  induction t with
  | zero => decide
  | succ t ih =>
    unfold lm_bs
    by_cases h : lm_bs t < 128
    · rw [if_pos h]; omega
    · rw [if_neg h]
      exact Nat.xor_lt_two_pow (n := 8) (Nat.mod_lt _ (by decide)) (by decide)
set_option maxRecDepth 100000 in
theorem lm_bx_all : ∀ v, v < 256 → ((Int32.ofNat (2 * v)) &&& (Int32.ofNat 255)) ^^^ (Int32.ofNat 113) = Int32.ofNat ((2 * v) % 256 ^^^ 113) := by decide +kernel
set_option maxRecDepth 100000 in
theorem lm_b1_all : ∀ v, v < 256 → (Int32.ofNat v) &&& (Int32.ofNat 1) = Int32.ofNat (v % 2) := by decide +kernel
theorem lm_l129 {a : Nat} (ha : a < 1000) {σ : lm_S} : ∀ k t, t + k = a % 255 → lm_rn sc d lm_m129.2.2.2.2.1 (lm_reg lm_m129.2.2.2.2.2) (4, [(0, .int (Int32.ofNat a)), (1, .int (Int32.ofNat (lm_bs t))), (2, .int (Int32.ofNat t))], []) σ = some (.ok (some (.int (Int32.ofNat (lm_bit a)))), σ) := by
  intro k
  induction k with
  | zero =>
    intro t ht
    have ht : t = a % 255 := ht
    have hl := lm_bs_lt t
    refine lm_e129_4 ?_
    unfold lm_q129_4
    refine lm_iW (by decide) ?_
    simp only [lm_K255, lm_K1]
    rw [lm_orm (by omega) (by omega)]
    refine lm_geT (by omega) (by omega) (by omega) ?_
    rw [lm_b1_all _ hl]
    unfold lm_bit
    rw [← ht]
    exact rfl
  | succ k ih =>
    intro t ht
    have hl := lm_bs_lt t
    have hm : a % 255 < 255 := Nat.mod_lt _ (by decide)
    have h := ih (t + 1) (by omega)
    refine lm_e129_4 ?_
    unfold lm_q129_4
    refine lm_iW (by decide) ?_
    simp only [lm_K255, lm_K128, lm_K2, lm_K113, lm_om]
    rw [lm_orm (by omega) (by omega)]
    refine lm_geF (by omega) (by omega) (by omega) ?_
    unfold lm_bs at h
    by_cases c : lm_bs t < 128
    · rw [if_pos c] at h
      refine lm_geF (by omega) (by omega) (by omega) ?_
      refine lm_e129_36 ?_
      unfold lm_q129_36
      rw [show Int32.ofNat t + Int32.ofInt 1 = Int32.ofNat (t + 1) from lm_oa t 1]
      exact h
    · rw [if_neg c] at h
      refine lm_geT (by omega) (by omega) (by omega) ?_
      refine lm_e129_36 ?_
      unfold lm_q129_36
      rw [show Int32.ofNat t + Int32.ofInt 1 = Int32.ofNat (t + 1) from lm_oa t 1, lm_bx_all _ hl]
      exact h
theorem lm_u129 {a : Nat} (ha : a < 1000) {σ : lm_S} : lm_cal sc (d + 1) 129 [.int (Int32.ofNat a)] σ = some (.ok (some (.int (Int32.ofNat (lm_bit a)))), σ) := by
  refine lm_cal_of (Y := lm_m129) rfl rfl (lm_e129_0 ?_)
  unfold lm_q129_0
  rw [lm_K1, lm_K0]
  exact lm_l129 ha (a % 255) 0 (by omega)
/-! the rounds -/
def lm_rs (j : Nat) : Int64 := (Int64.ofNat 1) <<< ((Int32.toInt64 (((Int32.ofInt 1) <<< ((Int32.ofNat j) &&& 31)) - (Int32.ofInt 1))) &&& 63)
def lm_ra (i : Nat) : Nat → Nat → Int64 → Int64
  | 0, _, a => a
  | k + 1, j, a => lm_ra i k (j + 1) (cond (Nat.beq (lm_bit (j + 7 * i)) 1) (a ||| lm_rs j) a)
def lm_rq (n : lm_ML) : Nat → lm_ML
  | 0 => n
  | t + 1 => lm_u (lm_rq n t) 222 t (lm_ra t 7 0 (lm_rq n t 222 t))
theorem lm_u_self {α : Type} {m : Nat → Nat → α} {q a : Nat} : lm_u m q a (m q a) = m := by
  funext q' a'
  unfold lm_u
  by_cases h : q' = q ∧ a' = a
  · rw [if_pos h, h.1, h.2]
  · rw [if_neg h]
theorem lm_l47c {n : lm_ML} {i : Nat} (hi : i < 24) (K : ∀ a, a = lm_ra i 7 0 (n 222 i) → lm_RC x Q (lm_rn sc (d + 1) lm_m47.2.2.2.2.1 (lm_reg lm_m47.2.2.2.2.2) (122, [(0, .ref 203), (4, .int (Int32.ofNat (i + 1)))], []) (lm_w m (lm_u n 222 i a) x))) :
    ∀ k j a, j + k = 7 → lm_ra i k j a = lm_ra i 7 0 (n 222 i) → lm_RC x Q (lm_rn sc (d + 1) lm_m47.2.2.2.2.1 (lm_reg lm_m47.2.2.2.2.2) (132, [(0, .ref 203), (4, .int (Int32.ofNat i)), (5, .int (Int32.ofNat j))], []) (lm_w m (lm_u n 222 i a) x)) := by
  intro k
  induction k with
  | zero =>
    intro j a hj h
    have hj : j = 7 := hj
    subst hj
    obtain ⟨m', n', e, f⟩ := K a h
    refine ⟨m', n', ?_, f⟩
    refine lm_e47_132 ?_
    unfold lm_q47_132
    rw [lm_K6, show Int32.ofNat i + Int32.ofInt 1 = Int32.ofNat (i + 1) from lm_oa i 1]
    exact lm_gtT (by decide) (by decide) (by decide) e
  | succ k ih =>
    intro j a hj h
    obtain ⟨m', n', e, f⟩ := ih (j + 1) _ (by omega) h
    refine ⟨m', n', ?_, f⟩
    refine lm_e47_132 ?_
    unfold lm_q47_132
    simp only [lm_K6, lm_K7, lm_om, lm_oo]
    refine lm_gtF (by omega) (by omega) (by omega) ?_
    refine lm_cI (lm_u129 (d := d) (by omega)) ?_
    have hb : lm_bit (j + 7 * i) < 2 := Nat.mod_lt _ (by decide)
    by_cases c : lm_bit (j + 7 * i) = 1
    · rw [c, show Nat.beq 1 1 = true from rfl, cond_true] at e
      rw [c]
      refine lm_iF (show ¬ ¬ Int32.ofNat 1 = Int32.ofInt 1 by decide) ?_
      repeat (first
    | ((with_reducible apply lm_sI); exact rfl)
    | ((with_reducible apply lm_sR); exact rfl)
    | ((with_reducible apply lm_sS); exact rfl; exact rfl)
    | ((with_reducible apply lm_sL); exact rfl)
    | ((with_reducible apply lm_sP); exact rfl; exact rfl)
    | ((with_reducible apply lm_sPL); exact rfl; exact rfl)
    | ((with_reducible apply lm_sAA); exact rfl; first | exact rfl | exact lm_roO (by omega) | exact lm_roM (by omega))
    | ((with_reducible apply lm_sI); exact lm_fpL (by omega))
    | ((with_reducible apply lm_sR); exact lm_fpB (by omega))
    | ((with_reducible apply lm_sP); exact lm_fpL (by omega); exact rfl)
    | ((with_reducible apply lm_sS); exact lm_ocO (by omega); exact rfl)
    | ((with_reducible apply lm_sA); exact rfl; omega)
    | ((with_reducible apply lm_sJ); exact rfl; omega)
    | ((with_reducible apply lm_sB); (first | exact rfl | exact lm_arB (by omega) | exact lm_arM (by omega)); omega)
    | ((with_reducible apply lm_wA); exact rfl; omega)
    | ((with_reducible apply lm_wJ); exact rfl; omega)
    | ((with_reducible apply lm_wB); (first | exact rfl | exact lm_arB (by omega) | exact lm_arM (by omega)); omega)
    | ((with_reducible apply lm_sAl); (first | exact rfl | exact lm_arB (by omega) | exact lm_arM (by omega)); omega)
    | ((with_reducible apply lm_iW); decide))
      rw [lm_u_eq, lm_uu]
      refine lm_e47_172 ?_
      unfold lm_q47_172
      rw [show Int32.ofNat j + Int32.ofInt 1 = Int32.ofNat (j + 1) from lm_oa j 1]
      exact e
    · have c0 : lm_bit (j + 7 * i) = 0 := by omega
      rw [c0, show Nat.beq 0 1 = false from rfl, cond_false] at e
      rw [c0]
      refine lm_iT (show ¬ Int32.ofNat 0 = Int32.ofInt 1 by decide) ?_
      refine lm_e47_172 ?_
      unfold lm_q47_172
      rw [show Int32.ofNat j + Int32.ofInt 1 = Int32.ofNat (j + 1) from lm_oa j 1]
      exact e
theorem lm_l47d {n : lm_ML} (K : lm_RC x Q (lm_rn sc (d + 1) lm_m47.2.2.2.2.1 (lm_reg lm_m47.2.2.2.2.2) (122, [(0, .ref 203), (4, .int (Int32.ofNat 24))], []) (lm_w m (lm_rq n 24) x))) :
    ∀ k t, t + k = 24 → lm_RC x Q (lm_rn sc (d + 1) lm_m47.2.2.2.2.1 (lm_reg lm_m47.2.2.2.2.2) (122, [(0, .ref 203), (4, .int (Int32.ofNat t))], []) (lm_w m (lm_rq n t) x)) := by
  intro k
  induction k with
  | zero =>
    intro t ht
    have ht : t = 24 := ht
    subst ht
    exact K
  | succ k ih =>
    intro t ht
    have h := lm_l47c (sc := sc) (d := d) (m := m) (x := x) (Q := Q) (n := lm_rq n t) (i := t) (by omega) (fun a ha => by subst ha; exact ih (t + 1) (by omega)) 7 0 (lm_rq n t 222 t) rfl rfl
    rw [lm_u_self] at h
    obtain ⟨m', n', e, f⟩ := h
    refine ⟨m', n', ?_, f⟩
    refine lm_e47_122 ?_
    unfold lm_q47_122
    simp only [lm_K24, lm_K0]
    exact lm_geF (by omega) (by omega) (by omega) e
end LMCO
