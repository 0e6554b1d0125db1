/-! ===== the class's constructors: Kem, Dsa, Slh ===== -/
def lm_rv1 (x : Int32) (k c : Int) : Int32 := ((x &&& (Int32.ofInt c)) <<< ((Int32.ofInt k) &&& 31)) ||| ((lm_us x (Int32.ofInt k)) &&& (Int32.ofInt c))
def lm_rv4 (x : Int32) : Int32 := lm_rv1 (lm_rv1 (lm_rv1 x 1 1431655765) 2 858993459) 4 252645135
def lm_rvb (x0 : Int32) : Int32 := ((((x0 <<< ((Int32.ofInt 24) &&& 31)) ||| ((x0 &&& (Int32.ofInt 65280)) <<< ((Int32.ofInt 8) &&& 31))) ||| ((lm_us x0 (Int32.ofInt 8)) &&& (Int32.ofInt 65280))) ||| (lm_us x0 (Int32.ofInt 24)))
def lm_rv (x : Int32) : Int32 := lm_rvb (lm_rv4 x)
section LMK3
variable {sc : lm_H} {d : Nat} {σ : lm_S} {x y : Int32}
theorem lm_u273 : lm_cal sc (d + 1) 273 [.int x] σ = some (.ok (some (.int (lm_rvb x))), σ) := by
  refine lm_cal_of (Y := lm_m273) rfl rfl (lm_e273_0 ?_)
  unfold lm_q273_0
  exact rfl
theorem lm_u196 : lm_cal sc (d + 2) 196 [.int x] σ = some (.ok (some (.int (lm_rv x))), σ) := by
  refine lm_cal_of (Y := lm_m196) rfl rfl (lm_e196_0 ?_)
  unfold lm_q196_0
  refine lm_cI lm_u273 ?_
  exact rfl
theorem lm_u126 : lm_cal sc (d + 3) 126 [.int x, .int y] σ = some (.ok (some (.int (lm_us (lm_rv x) (Int32.ofInt 32 - y)))), σ) := by
  refine lm_cal_of (Y := lm_m126) rfl rfl (lm_e126_0 ?_)
  unfold lm_q126_0
  refine lm_cI lm_u196 ?_
  exact rfl
/-- the lowest b bits of i turned round -/
def lm_br : Nat → Nat → Nat
  | 0, _ => 0
  | b + 1, i => (i % 2) * 2 ^ b + lm_br b (i / 2)
set_option maxRecDepth 100000 in
theorem lm_br7_all : ∀ i, i < 128 → lm_us (lm_rv (Int32.ofNat i)) (Int32.ofInt 32 - Int32.ofNat 7) = Int32.ofNat (lm_br 7 i) := by decide +kernel
set_option maxRecDepth 100000 in
theorem lm_br8_all : ∀ i, i < 256 → lm_us (lm_rv (Int32.ofNat i)) (Int32.ofInt 32 - Int32.ofNat 8) = Int32.ofNat (lm_br 8 i) := by decide +kernel
theorem lm_br_lt (b i : Nat) : lm_br b i < 2 ^ b := by
  induction b generalizing i with
  | zero => exact Nat.one_pos
  | succ b ih =>
    have h := ih (i / 2)
    have h1 : i % 2 < 2 := Nat.mod_lt _ (by omega)
    have h2 : (i % 2) * 2 ^ b ≤ 1 * 2 ^ b := Nat.mul_le_mul_right _ (by omega)
    show i % 2 * 2 ^ b + lm_br b (i / 2) < 2 ^ (b + 1)
    rw [Nat.pow_succ]
    omega
end LMK3
theorem lm_pw (b q t : Nat) : b ^ t % q * b % q = b ^ (t + 1) % q := by
  rw [Nat.pow_succ, Nat.mul_mod, Nat.mod_mod, ← Nat.mul_mod]
/-- the zetas of Kem, written one by one -/
def lm_km (m : lm_MI) : Nat → lm_MI
  | 0 => m
  | t + 1 => cond (Nat.beq (t % 2) 1) (lm_u (cond (Nat.blt t 128) (lm_u (lm_km m t) 45 (lm_br 7 t) (Int32.ofNat (17 ^ t % 3329))) (lm_km m t)) 46 (lm_br 7 (t / 2)) (Int32.ofNat (17 ^ t % 3329))) (cond (Nat.blt t 128) (lm_u (lm_km m t) 45 (lm_br 7 t) (Int32.ofNat (17 ^ t % 3329))) (lm_km m t))
section LMK4
variable {sc : lm_H} {d : Nat} {m : lm_MI} {n : lm_ML} {x : lm_H × Nat × Nat}
theorem lm_l44 : ∀ k t, t + k = 256 → lm_rn sc (d + 3) lm_m44.2.2.2.2.1 (lm_reg lm_m44.2.2.2.2.2) (116, [(0, .ref 44), (2, .int (Int32.ofNat (17 ^ t % 3329))), (3, .int (Int32.ofNat t))], []) (lm_W 76 [(0, [3, 2, 1, 0])] (lm_km m t) n x) = some (.ok none, lm_W 76 [(0, [3, 2, 1, 0])] (lm_km m 256) n x) := by
  intro k
  induction k with
  | zero =>
    intro t ht
    have ht : t = 256 := ht
    subst ht
    refine lm_e44_116 ?_
    unfold lm_q44_116
    rw [lm_K256]
    refine lm_geT (by decide) (by decide) (by decide) ?_
    exact rfl
  | succ k ih =>
    intro t ht
    have hp : 17 ^ t % 3329 < 3329 := Nat.mod_lt _ (by decide)
    have fin : ∀ m' : lm_MI, m' = lm_km m (t + 1) → lm_rn sc (d + 3) lm_m44.2.2.2.2.1 (lm_reg lm_m44.2.2.2.2.2) (163, [(0, .ref 44), (2, .int (Int32.ofNat (17 ^ t % 3329))), (3, .int (Int32.ofNat t))], []) (lm_W 76 [(0, [3, 2, 1, 0])] m' n x) = some (.ok none, lm_W 76 [(0, [3, 2, 1, 0])] (lm_km m 256) n x) := by
      intro m' hm
      subst hm
      refine lm_e44_163 ?_
      unfold lm_q44_163
      refine lm_iW (by decide) ?_
      rw [lm_K17, lm_K3329, lm_om, lm_orm (by omega) (by omega), lm_pw, show Int32.ofNat t + Int32.ofInt 1 = Int32.ofNat (t + 1) from lm_oa t 1]
      exact ih (t + 1) (by omega)
    have mid : ∀ m1 : lm_MI, m1 = cond (Nat.blt t 128) (lm_u (lm_km m t) 45 (lm_br 7 t) (Int32.ofNat (17 ^ t % 3329))) (lm_km m t) → lm_rn sc (d + 3) lm_m44.2.2.2.2.1 (lm_reg lm_m44.2.2.2.2.2) (142, [(0, .ref 44), (2, .int (Int32.ofNat (17 ^ t % 3329))), (3, .int (Int32.ofNat t))], []) (lm_W 76 [(0, [3, 2, 1, 0])] m1 n x) = some (.ok none, lm_W 76 [(0, [3, 2, 1, 0])] (lm_km m 256) n x) := by
      intro m1 hm
      refine lm_e44_142 ?_
      unfold lm_q44_142
      refine lm_iW (by decide) ?_
      rw [lm_K2, lm_K1, lm_orm (by omega) (by omega)]
      by_cases ho : t % 2 = 1
      · refine lm_neF (by omega) (by omega) (by omega) ?_
        apply lm_sR
        · exact rfl
        refine lm_iW (by decide) ?_
        refine lm_cI lm_u126 ?_
        rw [lm_od (by omega) (by omega), lm_K7, lm_br7_all (t / 2) (by omega)]
        have hb := lm_br_lt 7 (t / 2)
        refine lm_wA (w := 128) rfl (by omega) ?_
        refine fin _ ?_
        show _ = cond (Nat.beq (t % 2) 1) _ _
        rw [ho, hm]
        rfl
      · refine lm_neT (by omega) (by omega) (by omega) ?_
        refine fin _ ?_
        show _ = cond (Nat.beq (t % 2) 1) _ _
        rw [show t % 2 = 0 by omega, hm]
        rfl
    refine lm_e44_116 ?_
    unfold lm_q44_116
    rw [lm_K256, lm_K128]
    refine lm_geF (by omega) (by omega) (by omega) ?_
    by_cases h : 128 ≤ t
    · refine lm_geT (by omega) (by omega) h ?_
      refine mid _ ?_
      have e : Nat.blt t 128 = false := by
        cases h1 : Nat.blt t 128 with
        | true => exact absurd (Nat.blt_eq.mp h1) (by omega)
        | false => rfl
      rw [e]
      rfl
    · refine lm_geF (by omega) (by omega) h ?_
      apply lm_sR
      · exact rfl
      refine lm_cI lm_u126 ?_
      rw [lm_K7, lm_br7_all t (by omega)]
      have hb := lm_br_lt 7 t
      refine lm_wA (w := 128) rfl (by omega) ?_
      refine mid _ ?_
      rw [Nat.blt_eq.mpr (show t < 128 by omega)]
      rfl
/-- the zetas of Dsa -/
def lm_dm (m : lm_MI) : Nat → lm_MI
  | 0 => m
  | t + 1 => lm_u (lm_dm m t) 77 (lm_br 8 t) (Int32.ofNat (1753 ^ t % 8380417))
theorem lm_l45 : ∀ k t, t + k = 256 → lm_rn sc (d + 3) lm_m45.2.2.2.2.1 (lm_reg lm_m45.2.2.2.2.2) (178, [(0, .ref 76), (2, .long (Int64.ofNat (1753 ^ t % 8380417))), (4, .int (Int32.ofNat t))], []) (lm_W 194 [(0, [4, 3, 2, 1, 0])] (lm_dm m t) n x) = some (.ok none, lm_W 194 [(0, [4, 3, 2, 1, 0])] (lm_dm m 256) n x) := by
  intro k
  induction k with
  | zero =>
    intro t ht
    have ht : t = 256 := ht
    subst ht
    refine lm_e45_178 ?_
    unfold lm_q45_178
    rw [lm_K256]
    refine lm_geT (by decide) (by decide) (by decide) ?_
    exact rfl
  | succ k ih =>
    intro t ht
    have hp : 1753 ^ t % 8380417 < 8380417 := Nat.mod_lt _ (by decide)
    refine lm_e45_178 ?_
    unfold lm_q45_178
    rw [lm_K256]
    refine lm_geF (by omega) (by omega) (by omega) ?_
    apply lm_sR
    · exact rfl
    refine lm_cI lm_u126 ?_
    have hb := lm_br_lt 8 t
    rw [lm_K8, lm_br8_all t (by omega)]
    refine lm_wA (w := 256) rfl (by omega) ?_
    refine lm_iW (by decide) ?_
    rw [lm_lom, lm_lrm (by omega) (by omega), lm_pw, lm_l2i, show Int32.ofNat t + Int32.ofInt 1 = Int32.ofNat (t + 1) from lm_oa t 1]
    exact ih (t + 1) (by omega)
end LMK4
