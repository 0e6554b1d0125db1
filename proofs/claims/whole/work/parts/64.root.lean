/-! ===== the reference's above, prime, root ===== -/
section LMRO
variable {sc : lm_H} {d : Nat} {m : lm_MI} {x : lm_H × Nat × Nat} {N T w P : Nat} {n0 : lm_ML} {V : Int32}
theorem lm_a3 (K : lm_KO sc d m x N T w P n0 V 0) : ∀ k t (n : lm_ML), t + k = 16 → (∀ i, i < t → n 220 i = Int64.ofNat (if i = 0 then 1 else 0)) → lm_f2 n0 n → lm_RA m x n0 V (lm_rn sc d lm_m197.2.2.2.2.1 (lm_reg lm_m197.2.2.2.2.2) (3, [(0, .ref 203), (1, .int (Int32.ofNat w)), (2, .long (Int64.ofNat P)), (4, .int (Int32.ofNat T)), (5, .int (Int32.ofNat N)), (6, .int (Int32.ofNat t))], []) (lm_w m n x)) := by
  intro k
  induction k with
  | zero =>
    intro t n ht h1 h2
    have ht : t = 16 := ht
    subst ht
    obtain ⟨n', e, f⟩ := K n (fun i => if i = 0 then 1 else 0) h1 (fun i _ => by by_cases g : i = 0 <;> simp [g]) (by rw [Nat.pow_zero]; decide) h2
    refine ⟨n', ?_, f⟩
    refine lm_e197_3 ?_
    unfold lm_q197_3
    simp only [lm_K16, lm_K0]
    exact lm_geT (by decide) (by decide) (by decide) e
  | succ k ih =>
    intro t n ht h1 h2
    obtain ⟨n', e, f⟩ := ih (t + 1) (lm_u n 220 t (Int64.ofNat (if t = 0 then 1 else 0))) (by omega) (fun i hi => by
      by_cases g : i = t
      · subst g
        rw [lm_u_eq]
      · rw [lm_u_ne (fun g2 => g g2.2)]
        exact h1 i (by omega)) (h2.u (Or.inr rfl))
    refine ⟨n', ?_, f⟩
    refine lm_e197_3 ?_
    unfold lm_q197_3
    simp only [lm_K16, lm_K0]
    refine lm_geF (by omega) (by omega) (by omega) ?_
    repeat (first
    | ((with_reducible apply lm_sI); exact rfl)
    | ((with_reducible apply lm_sR); exact rfl)
    | ((with_reducible apply lm_sS); exact rfl; exact rfl)
    | ((with_reducible apply lm_sL); exact rfl)
    | ((with_reducible apply lm_sP); exact rfl; exact rfl)
    | ((with_reducible apply lm_sPL); exact rfl; exact rfl)
    | ((with_reducible apply lm_sAA); exact rfl; first | exact rfl | exact lm_roO (by omega) | exact lm_roM (by omega))
    | ((with_reducible apply lm_sI); exact lm_fpL (by omega))
    | ((with_reducible apply lm_sR); exact lm_fpB (by omega))
    | ((with_reducible apply lm_sP); exact lm_fpL (by omega); exact rfl)
    | ((with_reducible apply lm_sS); exact lm_ocO (by omega); exact rfl)
    | ((with_reducible apply lm_sA); exact rfl; omega)
    | ((with_reducible apply lm_sJ); exact rfl; omega)
    | ((with_reducible apply lm_sB); (first | exact rfl | exact lm_arB (by omega) | exact lm_arM (by omega)); omega)
    | ((with_reducible apply lm_wA); exact rfl; omega)
    | ((with_reducible apply lm_wJ); exact rfl; omega)
    | ((with_reducible apply lm_wB); (first | exact rfl | exact lm_arB (by omega) | exact lm_arM (by omega)); omega)
    | ((with_reducible apply lm_sAl); (first | exact rfl | exact lm_arB (by omega) | exact lm_arM (by omega)); omega)
    | ((with_reducible apply lm_iW); decide))
    by_cases g : t = 0
    · subst g
      refine lm_iF (show ¬ ¬ Int32.ofNat 0 = 0 by decide) ?_
      refine lm_e197_26 ?_
      unfold lm_q197_26
      repeat (first
    | ((with_reducible apply lm_sI); exact rfl)
    | ((with_reducible apply lm_sR); exact rfl)
    | ((with_reducible apply lm_sS); exact rfl; exact rfl)
    | ((with_reducible apply lm_sL); exact rfl)
    | ((with_reducible apply lm_sP); exact rfl; exact rfl)
    | ((with_reducible apply lm_sPL); exact rfl; exact rfl)
    | ((with_reducible apply lm_sAA); exact rfl; first | exact rfl | exact lm_roO (by omega) | exact lm_roM (by omega))
    | ((with_reducible apply lm_sI); exact lm_fpL (by omega))
    | ((with_reducible apply lm_sR); exact lm_fpB (by omega))
    | ((with_reducible apply lm_sP); exact lm_fpL (by omega); exact rfl)
    | ((with_reducible apply lm_sS); exact lm_ocO (by omega); exact rfl)
    | ((with_reducible apply lm_sA); exact rfl; omega)
    | ((with_reducible apply lm_sJ); exact rfl; omega)
    | ((with_reducible apply lm_sB); (first | exact rfl | exact lm_arB (by omega) | exact lm_arM (by omega)); omega)
    | ((with_reducible apply lm_wA); exact rfl; omega)
    | ((with_reducible apply lm_wJ); exact rfl; omega)
    | ((with_reducible apply lm_wB); (first | exact rfl | exact lm_arB (by omega) | exact lm_arM (by omega)); omega)
    | ((with_reducible apply lm_sAl); (first | exact rfl | exact lm_arB (by omega) | exact lm_arM (by omega)); omega)
    | ((with_reducible apply lm_iW); decide))
      exact e
    · refine lm_iT (show ¬ Int32.ofNat t = 0 from fun h => g ((lm_eq32 (a := t) (b := 0) (by omega) (by omega)).mp h)) ?_
      refine lm_e197_26 ?_
      unfold lm_q197_26
      rw [show Int32.ofNat t + Int32.ofInt 1 = Int32.ofNat (t + 1) from lm_oa t 1]
      repeat (first
    | ((with_reducible apply lm_sI); exact rfl)
    | ((with_reducible apply lm_sR); exact rfl)
    | ((with_reducible apply lm_sS); exact rfl; exact rfl)
    | ((with_reducible apply lm_sL); exact rfl)
    | ((with_reducible apply lm_sP); exact rfl; exact rfl)
    | ((with_reducible apply lm_sPL); exact rfl; exact rfl)
    | ((with_reducible apply lm_sAA); exact rfl; first | exact rfl | exact lm_roO (by omega) | exact lm_roM (by omega))
    | ((with_reducible apply lm_sI); exact lm_fpL (by omega))
    | ((with_reducible apply lm_sR); exact lm_fpB (by omega))
    | ((with_reducible apply lm_sP); exact lm_fpL (by omega); exact rfl)
    | ((with_reducible apply lm_sS); exact lm_ocO (by omega); exact rfl)
    | ((with_reducible apply lm_sA); exact rfl; omega)
    | ((with_reducible apply lm_sJ); exact rfl; omega)
    | ((with_reducible apply lm_sB); (first | exact rfl | exact lm_arB (by omega) | exact lm_arM (by omega)); omega)
    | ((with_reducible apply lm_wA); exact rfl; omega)
    | ((with_reducible apply lm_wJ); exact rfl; omega)
    | ((with_reducible apply lm_wB); (first | exact rfl | exact lm_arB (by omega) | exact lm_arM (by omega)); omega)
    | ((with_reducible apply lm_sAl); (first | exact rfl | exact lm_arB (by omega) | exact lm_arM (by omega)); omega)
    | ((with_reducible apply lm_iW); decide))
      rw [if_neg g] at e
      exact e
theorem lm_u197 {n : lm_ML} (hT : T ≤ 3) (hN : N < 2147483648) (hw : w < 1048576) (hP : P < 18446744073709551616) (hb : (w + 1) ^ T ≤ 2147483648) : ∃ n', lm_cal sc (d + 1) 197 [.ref 203, .int (Int32.ofNat w), .long (Int64.ofNat P), .int (Int32.ofNat T), .int (Int32.ofNat N)] (lm_w m n x) = some (.ok (some (.int (lm_z (lm_abv w P T N)))), lm_w m n' x) ∧ lm_f2 n n' := by
  obtain ⟨n', e, f⟩ := lm_a3 (n0 := n) (V := lm_z (lm_abv w P T N)) (lm_a36 (sc := sc) (d := d) (m := m) (x := x) (n0 := n) hT hN hw hP hb T 0 (by omega)) 16 0 n rfl (fun i hi => by omega) (fun _ _ _ => rfl)
  refine ⟨n', ?_, f⟩
  refine lm_cal_of (Y := lm_m197) rfl rfl (lm_e197_0 ?_)
  unfold lm_q197_0
  rw [lm_K0]
  exact e
/-! prime -/
def lm_ptr (p : Nat) : Nat → Nat → Bool
  | 0, _ => true
  | k + 1, t => cond (Nat.blt p (t * t)) true (cond (Nat.beq (p % t) 0) false (lm_ptr p k (t + 1)))
def lm_prim (p : Nat) : Bool := lm_ptr p 28 2
theorem lm_l127 {p : Nat} (hp : p < 900) {σ : lm_S} : ∀ k t, t + k = 30 → 2 ≤ t → lm_rn sc d lm_m127.2.2.2.2.1 (lm_reg lm_m127.2.2.2.2.2) (2, [(0, .int (Int32.ofNat p)), (1, .int (Int32.ofNat t))], []) σ = some (.ok (some (.int (lm_z (lm_ptr p k t)))), σ) := by
  intro k
  induction k with
  | zero =>
    intro t ht _
    have ht : t = 30 := ht
    subst ht
    refine lm_e127_2 ?_
    unfold lm_q127_2
    rw [lm_om]
    refine lm_gtT (by omega) (by omega) (by omega) ?_
    exact lm_iW (by decide) rfl
  | succ k ih =>
    intro t ht h2
    have htt : t * t ≤ 30 * 30 := Nat.mul_le_mul (by omega) (by omega)
    refine lm_e127_2 ?_
    unfold lm_q127_2 lm_ptr
    rw [lm_om]
    by_cases h : p < t * t
    · refine lm_gtT (by omega) (by omega) h ?_
      rw [Nat.blt_eq.mpr h, cond_true]
      exact lm_iW (by decide) rfl
    · refine lm_gtF (by omega) (by omega) h ?_
      have e : Nat.blt p (t * t) = false := by
        cases h1 : Nat.blt p (t * t) with
        | true => exact absurd (Nat.blt_eq.mp h1) h
        | false => rfl
      rw [e, cond_false]
      refine lm_iW (fun h => absurd ((lm_eq32 (a := t) (b := 0) (by omega) (by omega)).mp h) (by omega)) ?_
      rw [lm_orm (by omega) (by omega)]
      have hm : p % t ≤ p := Nat.mod_le _ _
      by_cases h3 : p % t = 0
      · rw [h3]
        refine lm_iF (show ¬ ¬ Int32.ofNat 0 = 0 by decide) ?_
        exact lm_iW (by decide) rfl
      · refine lm_iT (show ¬ Int32.ofNat (p % t) = 0 from fun h => h3 ((lm_eq32 (a := p % t) (b := 0) (by omega) (by omega)).mp h)) ?_
        have e : Nat.beq (p % t) 0 = false := by
          cases h1 : Nat.beq (p % t) 0 with
          | true => exact absurd (Nat.eq_of_beq_eq_true h1) h3
          | false => rfl
        rw [e, cond_false, show Int32.ofNat t + Int32.ofInt 1 = Int32.ofNat (t + 1) from lm_oa t 1]
        exact ih (t + 1) (by omega) (by omega)
theorem lm_u127 {p : Nat} (hp : p < 900) {σ : lm_S} : lm_cal sc (d + 1) 127 [.int (Int32.ofNat p)] σ = some (.ok (some (.int (lm_z (lm_prim p)))), σ) := by
  refine lm_cal_of (Y := lm_m127) rfl rfl (lm_e127_0 ?_)
  unfold lm_q127_0
  rw [lm_K2]
  exact lm_l127 hp 28 2 rfl (by omega)
/-! root -/
/-- the whole part -/
def lm_wl (N T : Nat) : Nat → Nat → Nat
  | 0, w => w
  | k + 1, w => cond (lm_abv (w + 1) 0 T N) w (lm_wl N T k (w + 1))
/-- the bits below the point -/
def lm_rb (w T N : Nat) : Nat → Nat → Nat
  | 0, P => P
  | b + 1, P => cond (lm_abv w (P + 2 ^ b) T N) (lm_rb w T N b P) (lm_rb w T N b (P + 2 ^ b))
def lm_rt (N T : Nat) : Nat := lm_rb (lm_wl N T 30 1) T N 64 0
theorem lm_wl_le (N T : Nat) : ∀ k w, lm_wl N T k w ≤ w + k := by
  intro k
  induction k with
  | zero => intro w; exact Nat.le_refl _
  | succ k ih =>
    intro w
    unfold lm_wl
    cases lm_abv (w + 1) 0 T N with
    | true => rw [cond_true]; omega
    | false => rw [cond_false]; have := ih (w + 1); omega
theorem lm_orbit {P b : Nat} (hb : b < 64) (h : P % 2 ^ (b + 1) = 0) : Int64.ofNat P ||| ((Int64.ofNat 1) <<< ((Int32.toInt64 (Int32.ofNat b)) &&& 63)) = Int64.ofNat (P + 2 ^ b) := by
  have e1 : (Int64.ofNat 1) <<< ((Int32.toInt64 (Int32.ofNat b)) &&& 63) = Int64.ofNat (2 ^ b) := by
    have : ∀ b, b < 64 → (Int64.ofNat 1) <<< ((Int32.toInt64 (Int32.ofNat b)) &&& 63) = Int64.ofNat (2 ^ b) := by decide +kernel
    exact this b hb
  rw [e1]
  apply Int64.toBitVec_inj.mp
  rw [Int64.toBitVec_or]
  show BitVec.ofNat 64 P ||| BitVec.ofNat 64 (2 ^ b) = BitVec.ofNat 64 (P + 2 ^ b)
  have e2 : P + 2 ^ b = P ||| 2 ^ b := by
    have h3 : P = 2 ^ (b + 1) * (P / 2 ^ (b + 1)) := by
      have := Nat.div_add_mod P (2 ^ (b + 1))
      omega
    rw [h3]
    exact Nat.two_pow_add_eq_or_of_lt (Nat.pow_lt_pow_right (by omega) (by omega)) _
  rw [e2]
  apply BitVec.eq_of_toNat_eq
  rw [BitVec.toNat_or, BitVec.toNat_ofNat, BitVec.toNat_ofNat, BitVec.toNat_ofNat, Nat.or_mod_two_pow]
/-- how root ends -/
def lm_RR (m : lm_MI) (x : lm_H × Nat × Nat) (n0 : lm_ML) (V : Int64) (o : Option (Except Nat lm_R × lm_S)) : Prop := ∃ n', o = some (.ok (some (.long V)), lm_w m n' x) ∧ lm_f2 n0 n'
theorem lm_f2.tr {n0 n1 n2 : lm_ML} (h : lm_f2 n0 n1) (h' : lm_f2 n1 n2) : lm_f2 n0 n2 := fun q a b => (h' q a b).trans (h q a b)
theorem lm_l128b (hT : T ≤ 3) (hN : N < 2147483648) (hw : w ≤ 40) : ∀ b P (n : lm_ML), b ≤ 64 → P % 2 ^ b = 0 → P + 2 ^ b ≤ 18446744073709551616 → lm_f2 n0 n → lm_RR m x n0 (Int64.ofNat (lm_rb w T N b P)) (lm_rn sc (d + 1) lm_m128.2.2.2.2.1 (lm_reg lm_m128.2.2.2.2.2) (28, [(0, .ref 203), (1, .int (Int32.ofNat N)), (2, .int (Int32.ofNat T)), (3, .int (Int32.ofNat w)), (4, .long (Int64.ofNat P)), (6, .int (Int32.ofInt ((b : Int) - 1)))], []) (lm_w m n x)) := by
  have hwb : (w + 1) ^ T ≤ 2147483648 := Nat.le_trans (Nat.pow_le_pow_left (show w + 1 ≤ 41 by omega) T) (Nat.le_trans (Nat.pow_le_pow_right (by omega) hT) (by decide))
  intro b
  induction b with
  | zero =>
    intro P n _ _ _ h
    refine ⟨n, ?_, h⟩
    refine lm_e128_28 ?_
    unfold lm_q128_28
    exact lm_iT (show Int32.ofInt (-1) < 0 by decide) rfl
  | succ b ih =>
    intro P n hb h1 h2 h
    have eb : Int32.ofInt (((b + 1 : Nat) : Int) - 1) = Int32.ofNat b := by
      rw [show (((b + 1 : Nat) : Int) - 1) = (b : Int) by omega, lm_ofI]
    have hpw : (2 : Nat) ^ (b + 1) = 2 ^ b + 2 ^ b := by rw [Nat.pow_succ]; omega
    have hm0 : P % 2 ^ b = 0 := Nat.mod_eq_zero_of_dvd (Nat.dvd_trans (Nat.pow_dvd_pow 2 (Nat.le_succ b)) (Nat.dvd_of_mod_eq_zero h1))
    have hm1 : (P + 2 ^ b) % 2 ^ b = 0 := by rw [Nat.add_mod_right, hm0]
    have e2 : Int32.ofNat b + Int32.ofInt (-1) = Int32.ofInt ((b : Int) - 1) := by
      rw [← lm_ofI, ← Int32.ofInt_add]
      rfl
    have hp2 : 0 < 2 ^ b := Nat.two_pow_pos b
    obtain ⟨n1, c1, f1⟩ := lm_u197 (sc := sc) (d := d) (m := m) (x := x) (n := n) (N := N) (T := T) (w := w) (P := P + 2 ^ b) hT hN (by omega) (by omega) hwb
    cases hv : lm_abv w (P + 2 ^ b) T N with
    | true =>
      obtain ⟨n2, c2, f2⟩ := ih P n1 (by omega) hm0 (by omega) (h.tr f1)
      refine ⟨n2, ?_, f2⟩
      refine lm_e128_28 ?_
      unfold lm_q128_28
      rw [eb]
      refine lm_iF (show ¬ Int32.ofNat b < 0 from (lm_nn (by omega)).1) ?_
      rw [lm_orbit (by omega) h1]
      repeat (first
    | ((with_reducible apply lm_sI); exact rfl)
    | ((with_reducible apply lm_sR); exact rfl)
    | ((with_reducible apply lm_sS); exact rfl; exact rfl)
    | ((with_reducible apply lm_sL); exact rfl)
    | ((with_reducible apply lm_sP); exact rfl; exact rfl)
    | ((with_reducible apply lm_sPL); exact rfl; exact rfl)
    | ((with_reducible apply lm_sAA); exact rfl; first | exact rfl | exact lm_roO (by omega) | exact lm_roM (by omega))
    | ((with_reducible apply lm_sI); exact lm_fpL (by omega))
    | ((with_reducible apply lm_sR); exact lm_fpB (by omega))
    | ((with_reducible apply lm_sP); exact lm_fpL (by omega); exact rfl)
    | ((with_reducible apply lm_sS); exact lm_ocO (by omega); exact rfl)
    | ((with_reducible apply lm_sA); exact rfl; omega)
    | ((with_reducible apply lm_sJ); exact rfl; omega)
    | ((with_reducible apply lm_sB); (first | exact rfl | exact lm_arB (by omega) | exact lm_arM (by omega)); omega)
    | ((with_reducible apply lm_wA); exact rfl; omega)
    | ((with_reducible apply lm_wJ); exact rfl; omega)
    | ((with_reducible apply lm_wB); (first | exact rfl | exact lm_arB (by omega) | exact lm_arM (by omega)); omega)
    | ((with_reducible apply lm_sAl); (first | exact rfl | exact lm_arB (by omega) | exact lm_arM (by omega)); omega)
    | ((with_reducible apply lm_iW); decide))
      refine lm_cI c1 ?_
      rw [hv]
      refine lm_iT (show ¬ (1 : Int32) = 0 by decide) ?_
      refine lm_e128_59 ?_
      unfold lm_q128_59
      rw [e2]
      unfold lm_rb
      rw [hv, cond_true]
      exact c2
    | false =>
      obtain ⟨n2, c2, f2⟩ := ih (P + 2 ^ b) n1 (by omega) hm1 (by omega) (h.tr f1)
      refine ⟨n2, ?_, f2⟩
      refine lm_e128_28 ?_
      unfold lm_q128_28
      rw [eb]
      refine lm_iF (show ¬ Int32.ofNat b < 0 from (lm_nn (by omega)).1) ?_
      rw [lm_orbit (by omega) h1]
      repeat (first
    | ((with_reducible apply lm_sI); exact rfl)
    | ((with_reducible apply lm_sR); exact rfl)
    | ((with_reducible apply lm_sS); exact rfl; exact rfl)
    | ((with_reducible apply lm_sL); exact rfl)
    | ((with_reducible apply lm_sP); exact rfl; exact rfl)
    | ((with_reducible apply lm_sPL); exact rfl; exact rfl)
    | ((with_reducible apply lm_sAA); exact rfl; first | exact rfl | exact lm_roO (by omega) | exact lm_roM (by omega))
    | ((with_reducible apply lm_sI); exact lm_fpL (by omega))
    | ((with_reducible apply lm_sR); exact lm_fpB (by omega))
    | ((with_reducible apply lm_sP); exact lm_fpL (by omega); exact rfl)
    | ((with_reducible apply lm_sS); exact lm_ocO (by omega); exact rfl)
    | ((with_reducible apply lm_sA); exact rfl; omega)
    | ((with_reducible apply lm_sJ); exact rfl; omega)
    | ((with_reducible apply lm_sB); (first | exact rfl | exact lm_arB (by omega) | exact lm_arM (by omega)); omega)
    | ((with_reducible apply lm_wA); exact rfl; omega)
    | ((with_reducible apply lm_wJ); exact rfl; omega)
    | ((with_reducible apply lm_wB); (first | exact rfl | exact lm_arB (by omega) | exact lm_arM (by omega)); omega)
    | ((with_reducible apply lm_sAl); (first | exact rfl | exact lm_arB (by omega) | exact lm_arM (by omega)); omega)
    | ((with_reducible apply lm_iW); decide))
      refine lm_cI c1 ?_
      rw [hv]
      refine lm_iF (show ¬ ¬ (0 : Int32) = 0 by decide) ?_
      refine lm_e128_59 ?_
      unfold lm_q128_59
      rw [e2]
      unfold lm_rb
      rw [hv, cond_false]
      exact c2
theorem lm_l128a (hT : T ≤ 3) (hT2 : 2 ≤ T) (hN : N < 900) : ∀ k w (n : lm_ML), w + k = 31 → lm_f2 n0 n → lm_RR m x n0 (Int64.ofNat (lm_rb (lm_wl N T k w) T N 64 0)) (lm_rn sc (d + 1) lm_m128.2.2.2.2.1 (lm_reg lm_m128.2.2.2.2.2) (2, [(0, .ref 203), (1, .int (Int32.ofNat N)), (2, .int (Int32.ofNat T)), (3, .int (Int32.ofNat w))], []) (lm_w m n x)) := by
  intro k
  induction k with
  | zero =>
    intro w n hw h
    have hw : w = 31 := hw
    subst hw
    have hwb : (31 + 1 + 1) ^ T ≤ 2147483648 := Nat.le_trans (Nat.pow_le_pow_right (by omega) hT) (by decide)
    obtain ⟨n1, c1, f1⟩ := lm_u197 (sc := sc) (d := d) (m := m) (x := x) (n := n) (N := N) (T := T) (w := 32) (P := 0) hT (by omega) (by omega) (by omega) hwb
    have hv : lm_abv 32 0 T N = true := by
      unfold lm_abv lm_X
      refine decide_eq_true ?_
      rw [Nat.add_zero, Nat.mul_pow, ← Nat.pow_mul]
      refine Nat.mul_lt_mul_of_pos_right ?_ (Nat.two_pow_pos _)
      have : 32 ^ 2 ≤ 32 ^ T := Nat.pow_le_pow_right (by omega) hT2
      omega
    obtain ⟨n2, c2, f2⟩ := lm_l128b (sc := sc) (d := d) (m := m) (x := x) (n0 := n0) (w := 31) hT (show N < 2147483648 by omega) (by omega) 64 0 n1 (by omega) rfl (by decide) (h.tr f1)
    refine ⟨n2, ?_, f2⟩
    refine lm_e128_2 ?_
    unfold lm_q128_2
    rw [show Int32.ofNat 31 + Int32.ofInt 1 = Int32.ofNat 32 from lm_oa 31 1]
    repeat (first
    | ((with_reducible apply lm_sI); exact rfl)
    | ((with_reducible apply lm_sR); exact rfl)
    | ((with_reducible apply lm_sS); exact rfl; exact rfl)
    | ((with_reducible apply lm_sL); exact rfl)
    | ((with_reducible apply lm_sP); exact rfl; exact rfl)
    | ((with_reducible apply lm_sPL); exact rfl; exact rfl)
    | ((with_reducible apply lm_sAA); exact rfl; first | exact rfl | exact lm_roO (by omega) | exact lm_roM (by omega))
    | ((with_reducible apply lm_sI); exact lm_fpL (by omega))
    | ((with_reducible apply lm_sR); exact lm_fpB (by omega))
    | ((with_reducible apply lm_sP); exact lm_fpL (by omega); exact rfl)
    | ((with_reducible apply lm_sS); exact lm_ocO (by omega); exact rfl)
    | ((with_reducible apply lm_sA); exact rfl; omega)
    | ((with_reducible apply lm_sJ); exact rfl; omega)
    | ((with_reducible apply lm_sB); (first | exact rfl | exact lm_arB (by omega) | exact lm_arM (by omega)); omega)
    | ((with_reducible apply lm_wA); exact rfl; omega)
    | ((with_reducible apply lm_wJ); exact rfl; omega)
    | ((with_reducible apply lm_wB); (first | exact rfl | exact lm_arB (by omega) | exact lm_arM (by omega)); omega)
    | ((with_reducible apply lm_sAl); (first | exact rfl | exact lm_arB (by omega) | exact lm_arM (by omega)); omega)
    | ((with_reducible apply lm_iW); decide))
    refine lm_cI c1 ?_
    rw [hv]
    exact lm_iT (show ¬ (1 : Int32) = 0 by decide) c2
  | succ k ih =>
    intro w n hw h
    have hwb : (w + 1 + 1) ^ T ≤ 2147483648 := Nat.le_trans (Nat.pow_le_pow_left (show w + 1 + 1 ≤ 33 by omega) T) (Nat.le_trans (Nat.pow_le_pow_right (by omega) hT) (by decide))
    obtain ⟨n1, c1, f1⟩ := lm_u197 (sc := sc) (d := d) (m := m) (x := x) (n := n) (N := N) (T := T) (w := w + 1) (P := 0) hT (by omega) (by omega) (by omega) hwb
    cases hv : lm_abv (w + 1) 0 T N with
    | true =>
      obtain ⟨n2, c2, f2⟩ := lm_l128b (sc := sc) (d := d) (m := m) (x := x) (n0 := n0) (w := w) hT (show N < 2147483648 by omega) (by omega) 64 0 n1 (by omega) rfl (by decide) (h.tr f1)
      refine ⟨n2, ?_, f2⟩
      refine lm_e128_2 ?_
      unfold lm_q128_2 lm_wl
      rw [show Int32.ofNat w + Int32.ofInt 1 = Int32.ofNat (w + 1) from lm_oa w 1, hv, cond_true]
      repeat (first
    | ((with_reducible apply lm_sI); exact rfl)
    | ((with_reducible apply lm_sR); exact rfl)
    | ((with_reducible apply lm_sS); exact rfl; exact rfl)
    | ((with_reducible apply lm_sL); exact rfl)
    | ((with_reducible apply lm_sP); exact rfl; exact rfl)
    | ((with_reducible apply lm_sPL); exact rfl; exact rfl)
    | ((with_reducible apply lm_sAA); exact rfl; first | exact rfl | exact lm_roO (by omega) | exact lm_roM (by omega))
    | ((with_reducible apply lm_sI); exact lm_fpL (by omega))
    | ((with_reducible apply lm_sR); exact lm_fpB (by omega))
    | ((with_reducible apply lm_sP); exact lm_fpL (by omega); exact rfl)
    | ((with_reducible apply lm_sS); exact lm_ocO (by omega); exact rfl)
    | ((with_reducible apply lm_sA); exact rfl; omega)
    | ((with_reducible apply lm_sJ); exact rfl; omega)
    | ((with_reducible apply lm_sB); (first | exact rfl | exact lm_arB (by omega) | exact lm_arM (by omega)); omega)
    | ((with_reducible apply lm_wA); exact rfl; omega)
    | ((with_reducible apply lm_wJ); exact rfl; omega)
    | ((with_reducible apply lm_wB); (first | exact rfl | exact lm_arB (by omega) | exact lm_arM (by omega)); omega)
    | ((with_reducible apply lm_sAl); (first | exact rfl | exact lm_arB (by omega) | exact lm_arM (by omega)); omega)
    | ((with_reducible apply lm_iW); decide))
      refine lm_cI c1 ?_
      rw [hv]
      exact lm_iT (show ¬ (1 : Int32) = 0 by decide) c2
    | false =>
      obtain ⟨n2, c2, f2⟩ := ih (w + 1) n1 (by omega) (h.tr f1)
      refine ⟨n2, ?_, f2⟩
      refine lm_e128_2 ?_
      unfold lm_q128_2 lm_wl
      rw [show Int32.ofNat w + Int32.ofInt 1 = Int32.ofNat (w + 1) from lm_oa w 1, hv, cond_false]
      repeat (first
    | ((with_reducible apply lm_sI); exact rfl)
    | ((with_reducible apply lm_sR); exact rfl)
    | ((with_reducible apply lm_sS); exact rfl; exact rfl)
    | ((with_reducible apply lm_sL); exact rfl)
    | ((with_reducible apply lm_sP); exact rfl; exact rfl)
    | ((with_reducible apply lm_sPL); exact rfl; exact rfl)
    | ((with_reducible apply lm_sAA); exact rfl; first | exact rfl | exact lm_roO (by omega) | exact lm_roM (by omega))
    | ((with_reducible apply lm_sI); exact lm_fpL (by omega))
    | ((with_reducible apply lm_sR); exact lm_fpB (by omega))
    | ((with_reducible apply lm_sP); exact lm_fpL (by omega); exact rfl)
    | ((with_reducible apply lm_sS); exact lm_ocO (by omega); exact rfl)
    | ((with_reducible apply lm_sA); exact rfl; omega)
    | ((with_reducible apply lm_sJ); exact rfl; omega)
    | ((with_reducible apply lm_sB); (first | exact rfl | exact lm_arB (by omega) | exact lm_arM (by omega)); omega)
    | ((with_reducible apply lm_wA); exact rfl; omega)
    | ((with_reducible apply lm_wJ); exact rfl; omega)
    | ((with_reducible apply lm_wB); (first | exact rfl | exact lm_arB (by omega) | exact lm_arM (by omega)); omega)
    | ((with_reducible apply lm_sAl); (first | exact rfl | exact lm_arB (by omega) | exact lm_arM (by omega)); omega)
    | ((with_reducible apply lm_iW); decide))
      refine lm_cI c1 ?_
      rw [hv]
      exact lm_iF (show ¬ ¬ (0 : Int32) = 0 by decide) c2
theorem lm_u128 {n : lm_ML} (hT : T ≤ 3) (hT2 : 2 ≤ T) (hN : N < 900) : ∃ n', lm_cal sc (d + 2) 128 [.ref 203, .int (Int32.ofNat N), .int (Int32.ofNat T)] (lm_w m n x) = some (.ok (some (.long (Int64.ofNat (lm_rt N T)))), lm_w m n' x) ∧ lm_f2 n n' := by
  obtain ⟨n', e, f⟩ := lm_l128a (sc := sc) (d := d) (m := m) (x := x) (n0 := n) hT hT2 hN 30 1 n rfl (fun _ _ _ => rfl)
  refine ⟨n', ?_, f⟩
  refine lm_cal_of (Y := lm_m128) rfl rfl (lm_e128_0 ?_)
  unfold lm_q128_0
  rw [lm_K1]
  exact e
end LMRO
