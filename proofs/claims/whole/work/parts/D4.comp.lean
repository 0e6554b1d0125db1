/-! ===== compress, expand, loops that may end early ===== -/
theorem lm_lpe {sc : lm_H} {d b : Nat} {hs : List (Nat × Nat)} {code : Nat → List lm_E} {x : lm_H × Nat × Nat} {fr : Nat → lm_F} {I : Nat → lm_MI → lm_ML → Prop} {E : Except Nat lm_R × lm_S → Prop} (step : ∀ i, i < b → ∀ m n, I i m n → (∃ m' n', I (i + 1) m' n' ∧ ∀ R, lm_rn sc d hs code (fr (i + 1)) (lm_w m' n' x) = some R → lm_rn sc d hs code (fr i) (lm_w m n x) = some R) ∨ ∃ R, E R ∧ lm_rn sc d hs code (fr i) (lm_w m n x) = some R) : ∀ j a, a + j = b → ∀ m n, I a m n → (∃ m' n', I b m' n' ∧ ∀ R, lm_rn sc d hs code (fr b) (lm_w m' n' x) = some R → lm_rn sc d hs code (fr a) (lm_w m n x) = some R) ∨ ∃ R, E R ∧ lm_rn sc d hs code (fr a) (lm_w m n x) = some R := by
  intro j
  induction j with
  | zero =>
    intro a ha m n h
    have ha : a = b := ha
    subst ha
    exact Or.inl ⟨m, n, h, fun R K => K⟩
  | succ j ih =>
    intro a ha m n h
    rcases step a (by omega) m n h with ⟨m1, n1, h1, k1⟩ | g
    · rcases ih (a + 1) (by omega) m1 n1 h1 with ⟨m2, n2, h2, k2⟩ | ⟨R, e, k⟩
      · exact Or.inl ⟨m2, n2, h2, fun R K => k1 R (k2 R K)⟩
      · exact Or.inr ⟨R, e, k1 R k⟩
    · exact Or.inr g
/-- compress -/
def lm_co (d x : Nat) : Nat := (x * 2 ^ (d + 1) + 3329) / 6658 % 2 ^ d
/-- expand -/
def lm_ex (d y : Nat) : Nat := (6658 * y + 2 ^ d) / 2 ^ (d + 1)
theorem lm_co_lt {d x : Nat} : lm_co d x < 2 ^ d := Nat.mod_lt _ (Nat.two_pow_pos d)
theorem lm_slN {a b : Nat} (hb : b < 32) (h : a * 2 ^ b < 4294967296) (ha : a < 4294967296) : Int32.ofNat a <<< (Int32.ofNat b &&& 31) = Int32.ofNat (a * 2 ^ b) := by
  apply lm_32n
  rw [lm_tsl _ hb, BitVec.toNat_shiftLeft, lm_tn ha, Nat.shiftLeft_eq]
  exact Nat.mod_eq_of_lt h
theorem lm_srN {a b : Nat} (hb : b < 32) (h : a < 2147483648) : Int32.ofNat a >>> (Int32.ofNat b &&& 31) = Int32.ofNat (a / 2 ^ b) := by
  apply lm_32n
  rw [lm_tsr _ hb, BitVec.toNat_sshiftRight_of_msb_false, lm_tn (by omega), Nat.shiftRight_eq_div_pow]
  rw [BitVec.msb_eq_decide, lm_tn (by omega)]
  exact decide_eq_false (by omega)
theorem lm_smod6 : ∀ b, b < 64 → (((Int32.toInt64 (Int32.ofNat b)) &&& 63).toBitVec.smod 64).toNat = b := by decide
theorem lm_slL {a b : Nat} (hb : b < 64) (h : a * 2 ^ b < 18446744073709551616) (ha : a < 18446744073709551616) : Int64.ofNat a <<< ((Int32.toInt64 (Int32.ofNat b)) &&& 63) = Int64.ofNat (a * 2 ^ b) := by
  apply Int64.toBitVec_inj.mp
  apply BitVec.eq_of_toNat_eq
  rw [Int64.toBitVec_shiftLeft, BitVec.shiftLeft_eq', lm_smod6 b hb, BitVec.toNat_shiftLeft, Int64.toBitVec_ofNat', Int64.toBitVec_ofNat', BitVec.toNat_ofNat, BitVec.toNat_ofNat, Nat.shiftLeft_eq, Nat.mod_eq_of_lt ha]
section LMCO
variable {sc : lm_H} {e d x y : Nat} {σ : lm_S}
theorem lm_p12 {d : Nat} (hd : d ≤ 11) : 2 ^ d ≤ 2048 ∧ 2 ^ (d + 1) = 2 * 2 ^ d ∧ 1 ≤ 2 ^ d := ⟨Nat.pow_le_pow_right (by decide) hd, by rw [Nat.pow_succ, Nat.mul_comm], Nat.two_pow_pos d⟩
theorem lm_u291 (hd : d ≤ 11) (hx : x < 3329) : lm_cal sc (e + 1) 291 [.int (Int32.ofNat x), .int (Int32.ofNat d)] σ = some (.ok (some (.int (Int32.ofNat (lm_co d x)))), σ) := by
  obtain ⟨p1, p2, p3⟩ := lm_p12 hd
  have hx2 : x * 2 ^ (d + 1) ≤ 3328 * 4096 := Nat.mul_le_mul (by omega) (by omega)
  refine lm_cal_of (Y := lm_m291) rfl rfl (lm_e291_0 ?_)
  unfold lm_q291_0
  refine lm_iW (by decide) ?_
  rw [lm_msk (by omega), lm_K1, lm_oo, lm_slN (by omega) (by omega) (by omega), lm_K3329, lm_K6658, lm_oo, lm_od (by omega) (by omega), lm_andm (by omega) (by omega)]
  rfl
theorem lm_u289 (hd : d ≤ 11) (hy : y < 4096) : lm_cal sc (e + 1) 289 [.int (Int32.ofNat y), .int (Int32.ofNat d)] σ = some (.ok (some (.int (Int32.ofNat (lm_ex d y)))), σ) := by
  obtain ⟨p1, p2, p3⟩ := lm_p12 hd
  refine lm_cal_of (Y := lm_m289) rfl rfl (lm_e289_0 ?_)
  unfold lm_q289_0
  rw [lm_K1, lm_K6658, lm_slN (a := 1) (by omega) (by omega) (by omega), Nat.one_mul, lm_om, lm_oo, lm_oo, lm_srN (by omega) (by omega)]
  rfl
theorem lm_u82 (hd : d ≤ 11) (hy : y < 4096) : lm_cal sc (e + 1) 82 [.int (Int32.ofNat y), .int (Int32.ofNat d)] σ = some (.ok (some (.int (Int32.ofNat (lm_ex d y)))), σ) := by
  obtain ⟨p1, p2, p3⟩ := lm_p12 hd
  refine lm_cal_of (Y := lm_m82) rfl rfl (lm_e82_0 ?_)
  unfold lm_q82_0
  rw [lm_K1, lm_K6658, lm_slN (a := 1) (by omega) (by omega) (by omega), Nat.one_mul, lm_om, lm_oo, lm_oo, lm_srN (by omega) (by omega)]
  rfl
theorem lm_u84 (hd : d ≤ 11) (hx : x < 3329) : lm_cal sc (e + 1) 84 [.int (Int32.ofNat x), .int (Int32.ofNat d)] σ = some (.ok (some (.int (Int32.ofNat (lm_co d x)))), σ) := by
  obtain ⟨p1, p2, p3⟩ := lm_p12 hd
  have hx2 : 2 * x * 2 ^ d ≤ 6656 * 2048 := Nat.mul_le_mul (by omega) (by omega)
  refine lm_cal_of (Y := lm_m84) rfl rfl (lm_e84_0 ?_)
  unfold lm_q84_0
  refine lm_iW (by decide) ?_
  rw [lm_msk (by omega), lm_i2l (by omega), lm_lom, lm_slL (by omega) (by omega) (by omega), lm_lo, lm_ld (by omega) (by omega), lm_l2i, lm_andm (by omega) (by omega)]
  unfold lm_co
  rw [show x * 2 ^ (d + 1) = 2 * x * 2 ^ d by rw [p2, Nat.mul_comm 2 x, Nat.mul_assoc]]
  rfl
theorem lm_ex_lt (hd : d ≤ 11) (h1 : 1 ≤ d) (hy : y < 2 ^ d) : lm_ex d y ≤ 3329 := by
  obtain ⟨p1, p2, p3⟩ := lm_p12 hd
  unfold lm_ex
  rw [p2]
  refine Nat.le_of_lt_succ (Nat.div_lt_of_lt_mul ?_)
  have : 6658 * (y + 1) ≤ 6658 * 2 ^ d := Nat.mul_le_mul_left _ hy
  omega
end LMCO
/-- products one after another -/
def lm_apc (S : Nat → Int) (F H : Nat → Nat → Int) : Nat → Nat → Int
  | 0 => S
  | j + 1 => lm_ap (lm_apc S F H j) (F j) (H j)
def lm_apr (S : Nat → Int) (F H : Nat → Nat → Int) : Nat → Nat → Int
  | 0 => S
  | j + 1 => fun c => lm_ap (lm_apr S F H j) (F j) (H j) c % 3329
theorem lm_ap_cg {S S' F F' H H' : Nat → Int} {c : Nat} (hS : ln_cg 3329 (S c) (S' c)) (hF : ∀ c, ln_cg 3329 (F c) (F' c)) (hH : ∀ c, ln_cg 3329 (H c) (H' c)) : ln_cg 3329 (lm_ap S F H c) (lm_ap S' F' H' c) := by
  unfold lm_ap
  refine hS.ad ?_
  by_cases e : c % 2 = 0
  · rw [if_pos e, if_pos e]
    exact ((hF c).mu (hH c)).ad ((ln_cg.tm.tr (((hF (c + 1)).mu (hH (c + 1))).tr ln_cg.tm.sy)).mu ln_cg.rf)
  · rw [if_neg e, if_neg e]
    exact ((hF (c - 1)).mu (hH c)).ad ((hF c).mu (hH (c - 1)))
theorem lm_apc_cg {S S' : Nat → Int} {F F' H H' : Nat → Nat → Int} (hS : ∀ c, ln_cg 3329 (S c) (S' c)) (hF : ∀ j c, ln_cg 3329 (F j c) (F' j c)) (hH : ∀ j c, ln_cg 3329 (H j c) (H' j c)) : ∀ j c, ln_cg 3329 (lm_apr S F H j c) (lm_apc S' F' H' j c) := by
  intro j
  induction j with
  | zero => exact hS
  | succ j ih => exact fun c => ln_cg.em.tr (lm_ap_cg (ih c) (hF j) (hH j))
theorem lm_apr_rg {S : Nat → Int} {F H : Nat → Nat → Int} (hS : lm_rg 4095 S) : ∀ j, lm_rg 4095 (lm_apr S F H j) := by
  intro j
  cases j with
  | zero => exact hS
  | succ j =>
    intro c _
    have h1 := Int.emod_nonneg (lm_ap (lm_apr S F H j) (F j) (H j) c) (show (3329 : Int) ≠ 0 by decide)
    have h2 := Int.emod_lt_of_pos (lm_ap (lm_apr S F H j) (F j) (H j) c) (show (0 : Int) < 3329 by decide)
    show 0 ≤ lm_ap (lm_apr S F H j) (F j) (H j) c % 3329 ∧ lm_ap (lm_apr S F H j) (F j) (H j) c % 3329 ≤ 4095
    omega
