/-! ===== the reference's transform of Kem ===== -/
theorem lm_LA (a b : Int) : Int64.ofInt a + Int64.ofInt b = Int64.ofInt (a + b) := (Int64.ofInt_add a b).symm
theorem lm_LM (a b : Int) : Int64.ofInt a * Int64.ofInt b = Int64.ofInt (a * b) := (Int64.ofInt_mul a b).symm
theorem ln_LS (a b : Int) : Int64.ofInt a - Int64.ofInt b = Int64.ofInt (a - b) := (Int64.ofInt_sub a b).symm
theorem lm_LN (a : Nat) : Int64.ofNat a = Int64.ofInt a := by
  apply Int64.toInt_inj.mp
  rw [Int64.toInt_ofNat', Int64.toInt_ofInt]
theorem lm_LT {a : Int} (h1 : -9223372036854775808 ≤ a) (h2 : a < 9223372036854775808) : (Int64.ofInt a).toInt = a := by
  rw [Int64.toInt_ofInt]
  have e : Int64.size = 18446744073709551616 := rfl
  exact Int.bmod_eq_of_le (by rw [e]; omega) (by rw [e]; omega)
theorem lm_LR {a b : Int} (h1 : -9223372036854775808 < a) (h2 : a < 9223372036854775808) (h3 : -9223372036854775808 ≤ b) (h4 : b < 9223372036854775808) : lm_remL (Int64.ofInt a) (Int64.ofInt b) = Int64.ofInt (a.tmod b) := by
  have g1 := lm_LT (Int.le_of_lt h1) h2
  have g2 := lm_LT h3 h4
  have e : (Int64.ofInt a / Int64.ofInt b).toInt = a.tdiv b := by
    rw [Int64.toInt_div_of_ne_left, g1, g2]
    intro e
    have := congrArg Int64.toInt e
    rw [g1] at this
    have : (Int64.minValue).toInt = -9223372036854775808 := rfl
    omega
  have e2 : Int64.ofInt a / Int64.ofInt b = Int64.ofInt (a.tdiv b) := by rw [← e, Int64.ofInt_toInt]
  unfold lm_remL
  rw [e2, lm_LM, ln_LS, Int.tmod_def, Int.mul_comm b]
theorem lm_il {a : Int} (h1 : -2147483648 ≤ a) (h2 : a < 2147483648) : Int32.toInt64 (Int32.ofInt a) = Int64.ofInt a := by
  apply Int64.toInt_inj.mp
  rw [Int32.toInt_toInt64, lm_iT0 h1 h2, lm_LT (by omega) (by omega)]
theorem ln_li (a : Int) : Int64.toInt32 (Int64.ofInt a) = Int32.ofInt a := by
  apply Int32.toBitVec_inj.mp
  rw [lm_tI32]
  show BitVec.setWidth 32 (BitVec.ofInt 64 a) = BitVec.ofInt 32 a
  apply BitVec.eq_of_toInt_eq
  rw [BitVec.toInt_setWidth, BitVec.toInt_ofInt, BitVec.toNat_ofInt]
  have := Int.emod_emod_of_dvd a (show ((2 ^ 32 : Nat) : Int) ∣ ((2 ^ 64 : Nat) : Int) by decide)
  rw [Int.toNat_of_nonneg (Int.emod_nonneg _ (by decide))]
  have e := Int.emod_bmod (n := 2 ^ 32) (x := a % ((2 ^ 64 : Nat) : Int))
  rw [this] at e
  rw [← e, Int.emod_bmod]
/-- turned round -/
def lm_tv (x0 x1 : Int32) : Nat → Int32
  | 0 => Int32.ofInt 0
  | b + 1 => if (x0 >>> (Int32.ofNat b &&& 31)) &&& (Int32.ofInt 1) = Int32.ofInt 1 then lm_tv x0 x1 b ||| ((Int32.ofInt 1) <<< (((x1 - (Int32.ofInt 1)) - Int32.ofNat b) &&& 31)) else lm_tv x0 x1 b
set_option maxRecDepth 100000 in
theorem lm_tv7 : ∀ i, i < 128 → lm_tv (Int32.ofNat i) (Int32.ofInt 7) 7 = Int32.ofNat (lm_br 7 i) := by decide +kernel
set_option maxRecDepth 100000 in
theorem lm_tv8 : ∀ i, i < 256 → lm_tv (Int32.ofNat i) (Int32.ofInt 8) 8 = Int32.ofNat (lm_br 8 i) := by decide +kernel
section LMRT
variable {sc : lm_H} {d : Nat} {m m0 : lm_MI} {n : lm_ML} {x : lm_H × Nat × Nat} {p : Nat} {G : Nat → Int}
theorem lm_l158 {v : Int32} {w : Nat} (hw : w ≤ 8) : lm_cal sc (d + 1) 158 [.int v, .int (Int32.ofNat w)] (lm_w m n x) = some (.ok (some (.int (lm_tv v (Int32.ofNat w) w))), lm_w m n x) := by
  obtain ⟨m', n', ⟨e1, e2⟩, h2⟩ := lm_lp (sc := sc) (d := d) (b := w) (hs := lm_m158.2.2.2.2.1) (code := lm_reg lm_m158.2.2.2.2.2) (x := x) (fr := fun i => (4, [(0, .int v), (1, .int (Int32.ofNat w)), (2, .int (lm_tv v (Int32.ofNat w) i)), (3, .int (Int32.ofNat i))], [])) (I := fun i m' n' => m' = m ∧ n' = n) (fun i hi m1 n1 ⟨e1, e2⟩ => by
    refine ⟨m, n, ⟨rfl, rfl⟩, fun R K => lm_e158_4 ?_⟩
    subst e1
    subst e2
    unfold lm_q158_4
    refine lm_geF (by omega) (by omega) (by omega) ?_
    unfold lm_tv at K
    by_cases c : (v >>> (Int32.ofNat i &&& 31)) &&& (Int32.ofInt 1) = Int32.ofInt 1
    · rw [if_pos c] at K
      refine lm_iF (fun g => g c) (lm_e158_28 ?_)
      unfold lm_q158_28
      rw [lm_K1, lm_oo]
      rw [lm_K1] at K
      exact K
    · rw [if_neg c] at K
      refine lm_iT c (lm_e158_28 ?_)
      unfold lm_q158_28
      rw [lm_K1, lm_oo]
      exact K) w 0 (by omega) m n ⟨rfl, rfl⟩
  subst e1
  subst e2
  refine lm_cal_of (Y := lm_m158) rfl rfl (lm_e158_0 ?_)
  unfold lm_q158_0
  refine h2 _ (lm_e158_4 ?_)
  unfold lm_q158_4
  exact lm_geT (by omega) (by omega) (by omega) rfl
theorem lm_u158_7 {i : Nat} (hi : i < 128) : lm_cal sc (d + 1) 158 [.int (Int32.ofNat i), .int (Int32.ofInt 7)] (lm_w m n x) = some (.ok (some (.int (Int32.ofNat (lm_br 7 i)))), lm_w m n x) := by
  have h := lm_l158 (sc := sc) (d := d) (m := m) (n := n) (x := x) (v := Int32.ofNat i) (w := 7) (by decide)
  rw [← lm_K7, lm_tv7 i hi] at h
  exact h
theorem lm_u158_8 {i : Nat} (hi : i < 256) : lm_cal sc (d + 1) 158 [.int (Int32.ofNat i), .int (Int32.ofInt 8)] (lm_w m n x) = some (.ok (some (.int (Int32.ofNat (lm_br 8 i)))), lm_w m n x) := by
  have h := lm_l158 (sc := sc) (d := d) (m := m) (n := n) (x := x) (v := Int32.ofNat i) (w := 8) (by decide)
  rw [← lm_K8, lm_tv8 i hi] at h
  exact h
/-- clear -/
theorem lm_u81 (hp : lm_ar p = some (0, 256)) : ∃ m', lm_cal sc (d + 1) 81 [.ref p] (lm_w m n x) = some (.ok none, lm_w m' n x) ∧ lm_PA m m' p (fun _ => 0) := by
  obtain ⟨m', n', ⟨hn, h0, h1⟩, h2⟩ := lm_lp (sc := sc) (d := d) (b := 256) (hs := lm_m81.2.2.2.2.1) (code := lm_reg lm_m81.2.2.2.2.2) (x := x) (fr := fun i => (2, [(0, .ref p), (1, .int (Int32.ofNat i))], [])) (I := fun i m' n' => n' = n ∧ (∀ q, q ≠ p → m' q = m q) ∧ ∀ j, j < i → m' p j = Int32.ofInt 0) (fun i hi m1 n1 ⟨en, h0, h1⟩ => by
    refine ⟨?m', ?n', ?_, fun R K => lm_e81_2 ?run⟩
    case run =>
      unfold lm_q81_2
      rw [lm_K256]
      refine lm_geF (by omega) (by omega) (by omega) ?_
      repeat (first
    | ((with_reducible apply lm_sI); exact rfl)
    | ((with_reducible apply lm_sR); exact rfl)
    | ((with_reducible apply lm_sS); exact rfl; exact rfl)
    | ((with_reducible apply lm_sL); exact rfl)
    | ((with_reducible apply lm_sP); exact rfl; exact rfl)
    | ((with_reducible apply lm_sPL); exact rfl; exact rfl)
    | ((with_reducible apply lm_sAA); exact rfl; exact rfl)
    | ((with_reducible apply lm_sA); (first | exact rfl | assumption); omega)
    | ((with_reducible apply lm_sJ); (first | exact rfl | assumption); omega)
    | ((with_reducible apply lm_sB); (first | exact rfl | assumption); omega)
    | ((with_reducible apply lm_wA); (first | exact rfl | assumption); omega)
    | ((with_reducible apply lm_wJ); (first | exact rfl | assumption); omega)
    | ((with_reducible apply lm_wB); (first | exact rfl | assumption); omega)
    | ((with_reducible apply lm_sAl); (first | exact rfl | assumption); omega)
    | ((with_reducible apply lm_iW); decide))
      rw [lm_K1, lm_oo]
      exact K
    · refine ⟨en, fun q hq => (lm_u_row hq).trans (h0 q hq), fun j hj => ?_⟩
      by_cases c : j = i
      · subst c
        rw [lm_u_eq]
      · rw [lm_u_ne (by omega)]
        exact h1 j (by omega)) 256 0 (by omega) m n ⟨rfl, fun _ _ => rfl, fun j hj => absurd hj (by omega)⟩
  subst hn
  refine ⟨m', ?_, h0, h1⟩
  refine lm_cal_of (Y := lm_m81) rfl rfl (lm_e81_0 ?_)
  unfold lm_q81_0
  rw [lm_K0]
  refine h2 _ (lm_e81_2 ?_)
  unfold lm_q81_2
  rw [lm_K256]
  exact lm_geT (by omega) (by omega) (by omega) rfl
/-- the powers of 17 -/
def lm_pk (e : Nat) : Int := ((17 ^ e % 3329 : Nat) : Int)
def lm_kE (s : Nat) : Nat := if s = 0 then 3 else 2
def lm_kU (s : Nat) : Nat := if s = 2 then 11 else 10
def lm_kV (s : Nat) : Nat := if s = 2 then 5 else 4
/-- what kem sets -/
def lm_KR (m : lm_MI) (s : Nat) : Prop := m 203 32 = Int32.ofNat (2 + s) ∧ m 203 33 = Int32.ofNat (lm_kE s) ∧ m 203 34 = Int32.ofNat (lm_kU s) ∧ m 203 35 = Int32.ofNat (lm_kV s) ∧ ∀ i, i < 256 → m 231 i = Int32.ofInt (lm_pk i)
theorem ln_l68 : ∃ m', (∀ q, q ≠ 231 → m' q = m q) ∧ (∀ i, i < 256 → m' 231 i = Int32.ofInt (lm_pk i)) ∧ lm_rn sc d lm_m68.2.2.2.2.1 (lm_reg lm_m68.2.2.2.2.2) (59, [(0, .ref 203), (2, .int (Int32.ofNat 1))], []) (lm_w (lm_u m 231 0 (Int32.ofInt 1)) n x) = some (.ok none, lm_w m' n x) := by
  obtain ⟨m', n', ⟨hn, h0, h1⟩, h2⟩ := lm_lpa (sc := sc) (d := d) (a := 1) (b := 256) (hs := lm_m68.2.2.2.2.1) (code := lm_reg lm_m68.2.2.2.2.2) (x := x) (fr := fun i => (59, [(0, .ref 203), (2, .int (Int32.ofNat i))], [])) (I := fun i m' n' => n' = n ∧ (∀ q, q ≠ 231 → m' q = m q) ∧ ∀ j, j < i → m' 231 j = Int32.ofInt (lm_pk j)) (by decide) (fun i hi0 hi m1 n1 ⟨en, h0, h1⟩ => by
    refine ⟨?m', ?n', ?_, fun R K => lm_e68_59 ?run⟩
    case run =>
      unfold lm_q68_59
      rw [lm_K256]
      refine lm_geF (by omega) (by omega) (by omega) ?_
      rw [lm_K1, lm_osu hi0]
      repeat (first
    | ((with_reducible apply lm_sI); exact rfl)
    | ((with_reducible apply lm_sR); exact rfl)
    | ((with_reducible apply lm_sS); exact rfl; exact rfl)
    | ((with_reducible apply lm_sL); exact rfl)
    | ((with_reducible apply lm_sP); exact rfl; exact rfl)
    | ((with_reducible apply lm_sPL); exact rfl; exact rfl)
    | ((with_reducible apply lm_sAA); exact rfl; exact rfl)
    | ((with_reducible apply lm_sA); (first | exact rfl | assumption); omega)
    | ((with_reducible apply lm_sJ); (first | exact rfl | assumption); omega)
    | ((with_reducible apply lm_sB); (first | exact rfl | assumption); omega)
    | ((with_reducible apply lm_wA); (first | exact rfl | assumption); omega)
    | ((with_reducible apply lm_wJ); (first | exact rfl | assumption); omega)
    | ((with_reducible apply lm_wB); (first | exact rfl | assumption); omega)
    | ((with_reducible apply lm_sAl); (first | exact rfl | assumption); omega)
    | ((with_reducible apply lm_iW); decide))
      rw [lm_oo]
      exact K
    · refine ⟨en, fun q hq => (lm_u_row hq).trans (h0 q hq), fun j hj => ?_⟩
      by_cases c : j = i
      · subst c
        have hl := Nat.mod_lt (17 ^ (j - 1)) (show 0 < 3329 by decide)
        rw [lm_u_eq, h1 (j - 1) (by omega), lm_iM]
        unfold lm_pk
        rw [lm_iR (by omega) (by omega) (by decide) (by decide)]
        congr 1
        rw [Int.tmod_eq_emod_of_nonneg (by omega), show j = j - 1 + 1 by omega, Nat.pow_succ, show j - 1 + 1 - 1 = j - 1 by omega]
        generalize 17 ^ (j - 1) = A
        omega
      · rw [lm_u_ne (by omega)]
        exact h1 j (by omega)) (lm_u m 231 0 (Int32.ofInt 1)) n ⟨rfl, fun q hq => lm_u_row hq, fun j hj => by
          have e : j = 0 := by omega
          subst e
          rw [lm_u_eq]
          rfl⟩
  subst hn
  refine ⟨m', h0, h1, h2 _ (lm_e68_59 ?_)⟩
  unfold lm_q68_59
  rw [lm_K256]
  exact lm_geT (by omega) (by omega) (by omega) rfl
/-- kem -/
theorem ln_u68 {s : Nat} (hs : s < 3) : ∃ m', lm_cal sc (d + 1) 68 [.ref 203, .int (Int32.ofNat s)] (lm_w m n x) = some (.ok none, lm_w m' n x) ∧ (∀ q, q ≠ 203 → q ≠ 231 → m' q = m q) ∧ (∀ j, j < 32 ∨ 35 < j → m' 203 j = m 203 j) ∧ lm_KR m' s := by
  have fin : ∀ k e u v : Int32, k = Int32.ofNat (2 + s) → e = Int32.ofNat (lm_kE s) → u = Int32.ofNat (lm_kU s) → v = Int32.ofNat (lm_kV s) → (∀ R, lm_rn sc d lm_m68.2.2.2.2.1 (lm_reg lm_m68.2.2.2.2.2) (59, [(0, .ref 203), (2, .int (Int32.ofNat 1))], []) (lm_w (lm_u (lm_u (lm_u (lm_u (lm_u m 203 32 k) 203 33 e) 203 34 u) 203 35 v) 231 0 (Int32.ofInt 1)) n x) = some R → lm_cal sc (d + 1) 68 [.ref 203, .int (Int32.ofNat s)] (lm_w m n x) = some R) → ∃ m', lm_cal sc (d + 1) 68 [.ref 203, .int (Int32.ofNat s)] (lm_w m n x) = some (.ok none, lm_w m' n x) ∧ (∀ q, q ≠ 203 → q ≠ 231 → m' q = m q) ∧ (∀ j, j < 32 ∨ 35 < j → m' 203 j = m 203 j) ∧ lm_KR m' s := by
    intro k e u v ek ee eu ev K
    obtain ⟨m', h0, h1, h2⟩ := ln_l68 (sc := sc) (d := d) (m := lm_u (lm_u (lm_u (lm_u m 203 32 k) 203 33 e) 203 34 u) 203 35 v) (n := n) (x := x)
    refine ⟨m', K _ h2, fun q q1 q2 => ?_, fun j hj => ?_, ?_, ?_, ?_, ?_, h1⟩
    · rw [h0 q q2, lm_u_row q1, lm_u_row q1, lm_u_row q1, lm_u_row q1]
    · rw [h0 203 (by decide), lm_u_ne (by omega), lm_u_ne (by omega), lm_u_ne (by omega), lm_u_ne (by omega)]
    · rw [h0 203 (by decide), lm_u_ne (by decide), lm_u_ne (by decide), lm_u_ne (by decide), lm_u_eq, ek]
    · rw [h0 203 (by decide), lm_u_ne (by decide), lm_u_ne (by decide), lm_u_eq, ee]
    · rw [h0 203 (by decide), lm_u_ne (by decide), lm_u_eq, eu]
    · rw [h0 203 (by decide), lm_u_eq, ev]
  rcases (by omega : s = 0 ∨ s = 1 ∨ s = 2) with e | e | e
  · subst e
    refine fin _ _ _ _ rfl rfl rfl rfl fun R K => lm_cal_of (Y := lm_m68) rfl rfl (lm_e68_0 ?_)
    unfold lm_q68_0
    repeat (first
    | ((with_reducible apply lm_sI); exact rfl)
    | ((with_reducible apply lm_sR); exact rfl)
    | ((with_reducible apply lm_sS); exact rfl; exact rfl)
    | ((with_reducible apply lm_sL); exact rfl)
    | ((with_reducible apply lm_sP); exact rfl; exact rfl)
    | ((with_reducible apply lm_sPL); exact rfl; exact rfl)
    | ((with_reducible apply lm_sAA); exact rfl; first | exact rfl | exact lm_roO (by omega) | exact lm_roM (by omega))
    | ((with_reducible apply lm_sI); exact lm_fpL (by omega))
    | ((with_reducible apply lm_sR); exact lm_fpB (by omega))
    | ((with_reducible apply lm_sP); exact lm_fpL (by omega); exact rfl)
    | ((with_reducible apply lm_sS); exact lm_ocO (by omega); exact rfl)
    | ((with_reducible apply lm_sA); exact rfl; omega)
    | ((with_reducible apply lm_sJ); exact rfl; omega)
    | ((with_reducible apply lm_sB); (first | exact rfl | exact lm_arB (by omega) | exact lm_arM (by omega)); omega)
    | ((with_reducible apply lm_wA); exact rfl; omega)
    | ((with_reducible apply lm_wJ); exact rfl; omega)
    | ((with_reducible apply lm_wB); (first | exact rfl | exact lm_arB (by omega) | exact lm_arM (by omega)); omega)
    | ((with_reducible apply lm_sAl); (first | exact rfl | exact lm_arB (by omega) | exact lm_arM (by omega)); omega)
    | ((with_reducible apply lm_iW); decide)
    | ((with_reducible apply lm_iTd); exact rfl)
    | ((with_reducible apply lm_iFd); exact rfl)
    | ((with_reducible apply lm_sSt); exact rfl; exact rfl; exact rfl)
    | ((with_reducible apply lm_sIz); exact rfl)
    | ((with_reducible apply lm_sPz); exact rfl; exact rfl; decide))
    refine lm_e68_17 ?_
    unfold lm_q68_17
    repeat (first
    | ((with_reducible apply lm_sI); exact rfl)
    | ((with_reducible apply lm_sR); exact rfl)
    | ((with_reducible apply lm_sS); exact rfl; exact rfl)
    | ((with_reducible apply lm_sL); exact rfl)
    | ((with_reducible apply lm_sP); exact rfl; exact rfl)
    | ((with_reducible apply lm_sPL); exact rfl; exact rfl)
    | ((with_reducible apply lm_sAA); exact rfl; first | exact rfl | exact lm_roO (by omega) | exact lm_roM (by omega))
    | ((with_reducible apply lm_sI); exact lm_fpL (by omega))
    | ((with_reducible apply lm_sR); exact lm_fpB (by omega))
    | ((with_reducible apply lm_sP); exact lm_fpL (by omega); exact rfl)
    | ((with_reducible apply lm_sS); exact lm_ocO (by omega); exact rfl)
    | ((with_reducible apply lm_sA); exact rfl; omega)
    | ((with_reducible apply lm_sJ); exact rfl; omega)
    | ((with_reducible apply lm_sB); (first | exact rfl | exact lm_arB (by omega) | exact lm_arM (by omega)); omega)
    | ((with_reducible apply lm_wA); exact rfl; omega)
    | ((with_reducible apply lm_wJ); exact rfl; omega)
    | ((with_reducible apply lm_wB); (first | exact rfl | exact lm_arB (by omega) | exact lm_arM (by omega)); omega)
    | ((with_reducible apply lm_sAl); (first | exact rfl | exact lm_arB (by omega) | exact lm_arM (by omega)); omega)
    | ((with_reducible apply lm_iW); decide)
    | ((with_reducible apply lm_iTd); exact rfl)
    | ((with_reducible apply lm_iFd); exact rfl)
    | ((with_reducible apply lm_sSt); exact rfl; exact rfl; exact rfl)
    | ((with_reducible apply lm_sIz); exact rfl)
    | ((with_reducible apply lm_sPz); exact rfl; exact rfl; decide))
    refine lm_e68_33 ?_
    unfold lm_q68_33
    repeat (first
    | ((with_reducible apply lm_sI); exact rfl)
    | ((with_reducible apply lm_sR); exact rfl)
    | ((with_reducible apply lm_sS); exact rfl; exact rfl)
    | ((with_reducible apply lm_sL); exact rfl)
    | ((with_reducible apply lm_sP); exact rfl; exact rfl)
    | ((with_reducible apply lm_sPL); exact rfl; exact rfl)
    | ((with_reducible apply lm_sAA); exact rfl; first | exact rfl | exact lm_roO (by omega) | exact lm_roM (by omega))
    | ((with_reducible apply lm_sI); exact lm_fpL (by omega))
    | ((with_reducible apply lm_sR); exact lm_fpB (by omega))
    | ((with_reducible apply lm_sP); exact lm_fpL (by omega); exact rfl)
    | ((with_reducible apply lm_sS); exact lm_ocO (by omega); exact rfl)
    | ((with_reducible apply lm_sA); exact rfl; omega)
    | ((with_reducible apply lm_sJ); exact rfl; omega)
    | ((with_reducible apply lm_sB); (first | exact rfl | exact lm_arB (by omega) | exact lm_arM (by omega)); omega)
    | ((with_reducible apply lm_wA); exact rfl; omega)
    | ((with_reducible apply lm_wJ); exact rfl; omega)
    | ((with_reducible apply lm_wB); (first | exact rfl | exact lm_arB (by omega) | exact lm_arM (by omega)); omega)
    | ((with_reducible apply lm_sAl); (first | exact rfl | exact lm_arB (by omega) | exact lm_arM (by omega)); omega)
    | ((with_reducible apply lm_iW); decide)
    | ((with_reducible apply lm_iTd); exact rfl)
    | ((with_reducible apply lm_iFd); exact rfl)
    | ((with_reducible apply lm_sSt); exact rfl; exact rfl; exact rfl)
    | ((with_reducible apply lm_sIz); exact rfl)
    | ((with_reducible apply lm_sPz); exact rfl; exact rfl; decide))
    refine lm_e68_47 ?_
    unfold lm_q68_47
    rw [lm_K0]
    repeat (first
    | ((with_reducible apply lm_sI); exact rfl)
    | ((with_reducible apply lm_sR); exact rfl)
    | ((with_reducible apply lm_sS); exact rfl; exact rfl)
    | ((with_reducible apply lm_sL); exact rfl)
    | ((with_reducible apply lm_sP); exact rfl; exact rfl)
    | ((with_reducible apply lm_sPL); exact rfl; exact rfl)
    | ((with_reducible apply lm_sAA); exact rfl; first | exact rfl | exact lm_roO (by omega) | exact lm_roM (by omega))
    | ((with_reducible apply lm_sI); exact lm_fpL (by omega))
    | ((with_reducible apply lm_sR); exact lm_fpB (by omega))
    | ((with_reducible apply lm_sP); exact lm_fpL (by omega); exact rfl)
    | ((with_reducible apply lm_sS); exact lm_ocO (by omega); exact rfl)
    | ((with_reducible apply lm_sA); exact rfl; omega)
    | ((with_reducible apply lm_sJ); exact rfl; omega)
    | ((with_reducible apply lm_sB); (first | exact rfl | exact lm_arB (by omega) | exact lm_arM (by omega)); omega)
    | ((with_reducible apply lm_wA); exact rfl; omega)
    | ((with_reducible apply lm_wJ); exact rfl; omega)
    | ((with_reducible apply lm_wB); (first | exact rfl | exact lm_arB (by omega) | exact lm_arM (by omega)); omega)
    | ((with_reducible apply lm_sAl); (first | exact rfl | exact lm_arB (by omega) | exact lm_arM (by omega)); omega)
    | ((with_reducible apply lm_iW); decide)
    | ((with_reducible apply lm_iTd); exact rfl)
    | ((with_reducible apply lm_iFd); exact rfl)
    | ((with_reducible apply lm_sSt); exact rfl; exact rfl; exact rfl)
    | ((with_reducible apply lm_sIz); exact rfl)
    | ((with_reducible apply lm_sPz); exact rfl; exact rfl; decide))
    exact K
  · subst e
    refine fin _ _ _ _ rfl rfl rfl rfl fun R K => lm_cal_of (Y := lm_m68) rfl rfl (lm_e68_0 ?_)
    unfold lm_q68_0
    repeat (first
    | ((with_reducible apply lm_sI); exact rfl)
    | ((with_reducible apply lm_sR); exact rfl)
    | ((with_reducible apply lm_sS); exact rfl; exact rfl)
    | ((with_reducible apply lm_sL); exact rfl)
    | ((with_reducible apply lm_sP); exact rfl; exact rfl)
    | ((with_reducible apply lm_sPL); exact rfl; exact rfl)
    | ((with_reducible apply lm_sAA); exact rfl; first | exact rfl | exact lm_roO (by omega) | exact lm_roM (by omega))
    | ((with_reducible apply lm_sI); exact lm_fpL (by omega))
    | ((with_reducible apply lm_sR); exact lm_fpB (by omega))
    | ((with_reducible apply lm_sP); exact lm_fpL (by omega); exact rfl)
    | ((with_reducible apply lm_sS); exact lm_ocO (by omega); exact rfl)
    | ((with_reducible apply lm_sA); exact rfl; omega)
    | ((with_reducible apply lm_sJ); exact rfl; omega)
    | ((with_reducible apply lm_sB); (first | exact rfl | exact lm_arB (by omega) | exact lm_arM (by omega)); omega)
    | ((with_reducible apply lm_wA); exact rfl; omega)
    | ((with_reducible apply lm_wJ); exact rfl; omega)
    | ((with_reducible apply lm_wB); (first | exact rfl | exact lm_arB (by omega) | exact lm_arM (by omega)); omega)
    | ((with_reducible apply lm_sAl); (first | exact rfl | exact lm_arB (by omega) | exact lm_arM (by omega)); omega)
    | ((with_reducible apply lm_iW); decide)
    | ((with_reducible apply lm_iTd); exact rfl)
    | ((with_reducible apply lm_iFd); exact rfl)
    | ((with_reducible apply lm_sSt); exact rfl; exact rfl; exact rfl)
    | ((with_reducible apply lm_sIz); exact rfl)
    | ((with_reducible apply lm_sPz); exact rfl; exact rfl; decide))
    refine lm_e68_17 ?_
    unfold lm_q68_17
    repeat (first
    | ((with_reducible apply lm_sI); exact rfl)
    | ((with_reducible apply lm_sR); exact rfl)
    | ((with_reducible apply lm_sS); exact rfl; exact rfl)
    | ((with_reducible apply lm_sL); exact rfl)
    | ((with_reducible apply lm_sP); exact rfl; exact rfl)
    | ((with_reducible apply lm_sPL); exact rfl; exact rfl)
    | ((with_reducible apply lm_sAA); exact rfl; first | exact rfl | exact lm_roO (by omega) | exact lm_roM (by omega))
    | ((with_reducible apply lm_sI); exact lm_fpL (by omega))
    | ((with_reducible apply lm_sR); exact lm_fpB (by omega))
    | ((with_reducible apply lm_sP); exact lm_fpL (by omega); exact rfl)
    | ((with_reducible apply lm_sS); exact lm_ocO (by omega); exact rfl)
    | ((with_reducible apply lm_sA); exact rfl; omega)
    | ((with_reducible apply lm_sJ); exact rfl; omega)
    | ((with_reducible apply lm_sB); (first | exact rfl | exact lm_arB (by omega) | exact lm_arM (by omega)); omega)
    | ((with_reducible apply lm_wA); exact rfl; omega)
    | ((with_reducible apply lm_wJ); exact rfl; omega)
    | ((with_reducible apply lm_wB); (first | exact rfl | exact lm_arB (by omega) | exact lm_arM (by omega)); omega)
    | ((with_reducible apply lm_sAl); (first | exact rfl | exact lm_arB (by omega) | exact lm_arM (by omega)); omega)
    | ((with_reducible apply lm_iW); decide)
    | ((with_reducible apply lm_iTd); exact rfl)
    | ((with_reducible apply lm_iFd); exact rfl)
    | ((with_reducible apply lm_sSt); exact rfl; exact rfl; exact rfl)
    | ((with_reducible apply lm_sIz); exact rfl)
    | ((with_reducible apply lm_sPz); exact rfl; exact rfl; decide))
    refine lm_e68_33 ?_
    unfold lm_q68_33
    repeat (first
    | ((with_reducible apply lm_sI); exact rfl)
    | ((with_reducible apply lm_sR); exact rfl)
    | ((with_reducible apply lm_sS); exact rfl; exact rfl)
    | ((with_reducible apply lm_sL); exact rfl)
    | ((with_reducible apply lm_sP); exact rfl; exact rfl)
    | ((with_reducible apply lm_sPL); exact rfl; exact rfl)
    | ((with_reducible apply lm_sAA); exact rfl; first | exact rfl | exact lm_roO (by omega) | exact lm_roM (by omega))
    | ((with_reducible apply lm_sI); exact lm_fpL (by omega))
    | ((with_reducible apply lm_sR); exact lm_fpB (by omega))
    | ((with_reducible apply lm_sP); exact lm_fpL (by omega); exact rfl)
    | ((with_reducible apply lm_sS); exact lm_ocO (by omega); exact rfl)
    | ((with_reducible apply lm_sA); exact rfl; omega)
    | ((with_reducible apply lm_sJ); exact rfl; omega)
    | ((with_reducible apply lm_sB); (first | exact rfl | exact lm_arB (by omega) | exact lm_arM (by omega)); omega)
    | ((with_reducible apply lm_wA); exact rfl; omega)
    | ((with_reducible apply lm_wJ); exact rfl; omega)
    | ((with_reducible apply lm_wB); (first | exact rfl | exact lm_arB (by omega) | exact lm_arM (by omega)); omega)
    | ((with_reducible apply lm_sAl); (first | exact rfl | exact lm_arB (by omega) | exact lm_arM (by omega)); omega)
    | ((with_reducible apply lm_iW); decide)
    | ((with_reducible apply lm_iTd); exact rfl)
    | ((with_reducible apply lm_iFd); exact rfl)
    | ((with_reducible apply lm_sSt); exact rfl; exact rfl; exact rfl)
    | ((with_reducible apply lm_sIz); exact rfl)
    | ((with_reducible apply lm_sPz); exact rfl; exact rfl; decide))
    refine lm_e68_47 ?_
    unfold lm_q68_47
    rw [lm_K0]
    repeat (first
    | ((with_reducible apply lm_sI); exact rfl)
    | ((with_reducible apply lm_sR); exact rfl)
    | ((with_reducible apply lm_sS); exact rfl; exact rfl)
    | ((with_reducible apply lm_sL); exact rfl)
    | ((with_reducible apply lm_sP); exact rfl; exact rfl)
    | ((with_reducible apply lm_sPL); exact rfl; exact rfl)
    | ((with_reducible apply lm_sAA); exact rfl; first | exact rfl | exact lm_roO (by omega) | exact lm_roM (by omega))
    | ((with_reducible apply lm_sI); exact lm_fpL (by omega))
    | ((with_reducible apply lm_sR); exact lm_fpB (by omega))
    | ((with_reducible apply lm_sP); exact lm_fpL (by omega); exact rfl)
    | ((with_reducible apply lm_sS); exact lm_ocO (by omega); exact rfl)
    | ((with_reducible apply lm_sA); exact rfl; omega)
    | ((with_reducible apply lm_sJ); exact rfl; omega)
    | ((with_reducible apply lm_sB); (first | exact rfl | exact lm_arB (by omega) | exact lm_arM (by omega)); omega)
    | ((with_reducible apply lm_wA); exact rfl; omega)
    | ((with_reducible apply lm_wJ); exact rfl; omega)
    | ((with_reducible apply lm_wB); (first | exact rfl | exact lm_arB (by omega) | exact lm_arM (by omega)); omega)
    | ((with_reducible apply lm_sAl); (first | exact rfl | exact lm_arB (by omega) | exact lm_arM (by omega)); omega)
    | ((with_reducible apply lm_iW); decide)
    | ((with_reducible apply lm_iTd); exact rfl)
    | ((with_reducible apply lm_iFd); exact rfl)
    | ((with_reducible apply lm_sSt); exact rfl; exact rfl; exact rfl)
    | ((with_reducible apply lm_sIz); exact rfl)
    | ((with_reducible apply lm_sPz); exact rfl; exact rfl; decide))
    exact K
  · subst e
    refine fin _ _ _ _ rfl rfl rfl rfl fun R K => lm_cal_of (Y := lm_m68) rfl rfl (lm_e68_0 ?_)
    unfold lm_q68_0
    repeat (first
    | ((with_reducible apply lm_sI); exact rfl)
    | ((with_reducible apply lm_sR); exact rfl)
    | ((with_reducible apply lm_sS); exact rfl; exact rfl)
    | ((with_reducible apply lm_sL); exact rfl)
    | ((with_reducible apply lm_sP); exact rfl; exact rfl)
    | ((with_reducible apply lm_sPL); exact rfl; exact rfl)
    | ((with_reducible apply lm_sAA); exact rfl; first | exact rfl | exact lm_roO (by omega) | exact lm_roM (by omega))
    | ((with_reducible apply lm_sI); exact lm_fpL (by omega))
    | ((with_reducible apply lm_sR); exact lm_fpB (by omega))
    | ((with_reducible apply lm_sP); exact lm_fpL (by omega); exact rfl)
    | ((with_reducible apply lm_sS); exact lm_ocO (by omega); exact rfl)
    | ((with_reducible apply lm_sA); exact rfl; omega)
    | ((with_reducible apply lm_sJ); exact rfl; omega)
    | ((with_reducible apply lm_sB); (first | exact rfl | exact lm_arB (by omega) | exact lm_arM (by omega)); omega)
    | ((with_reducible apply lm_wA); exact rfl; omega)
    | ((with_reducible apply lm_wJ); exact rfl; omega)
    | ((with_reducible apply lm_wB); (first | exact rfl | exact lm_arB (by omega) | exact lm_arM (by omega)); omega)
    | ((with_reducible apply lm_sAl); (first | exact rfl | exact lm_arB (by omega) | exact lm_arM (by omega)); omega)
    | ((with_reducible apply lm_iW); decide)
    | ((with_reducible apply lm_iTd); exact rfl)
    | ((with_reducible apply lm_iFd); exact rfl)
    | ((with_reducible apply lm_sSt); exact rfl; exact rfl; exact rfl)
    | ((with_reducible apply lm_sIz); exact rfl)
    | ((with_reducible apply lm_sPz); exact rfl; exact rfl; decide))
    refine lm_e68_17 ?_
    unfold lm_q68_17
    repeat (first
    | ((with_reducible apply lm_sI); exact rfl)
    | ((with_reducible apply lm_sR); exact rfl)
    | ((with_reducible apply lm_sS); exact rfl; exact rfl)
    | ((with_reducible apply lm_sL); exact rfl)
    | ((with_reducible apply lm_sP); exact rfl; exact rfl)
    | ((with_reducible apply lm_sPL); exact rfl; exact rfl)
    | ((with_reducible apply lm_sAA); exact rfl; first | exact rfl | exact lm_roO (by omega) | exact lm_roM (by omega))
    | ((with_reducible apply lm_sI); exact lm_fpL (by omega))
    | ((with_reducible apply lm_sR); exact lm_fpB (by omega))
    | ((with_reducible apply lm_sP); exact lm_fpL (by omega); exact rfl)
    | ((with_reducible apply lm_sS); exact lm_ocO (by omega); exact rfl)
    | ((with_reducible apply lm_sA); exact rfl; omega)
    | ((with_reducible apply lm_sJ); exact rfl; omega)
    | ((with_reducible apply lm_sB); (first | exact rfl | exact lm_arB (by omega) | exact lm_arM (by omega)); omega)
    | ((with_reducible apply lm_wA); exact rfl; omega)
    | ((with_reducible apply lm_wJ); exact rfl; omega)
    | ((with_reducible apply lm_wB); (first | exact rfl | exact lm_arB (by omega) | exact lm_arM (by omega)); omega)
    | ((with_reducible apply lm_sAl); (first | exact rfl | exact lm_arB (by omega) | exact lm_arM (by omega)); omega)
    | ((with_reducible apply lm_iW); decide)
    | ((with_reducible apply lm_iTd); exact rfl)
    | ((with_reducible apply lm_iFd); exact rfl)
    | ((with_reducible apply lm_sSt); exact rfl; exact rfl; exact rfl)
    | ((with_reducible apply lm_sIz); exact rfl)
    | ((with_reducible apply lm_sPz); exact rfl; exact rfl; decide))
    refine lm_e68_33 ?_
    unfold lm_q68_33
    repeat (first
    | ((with_reducible apply lm_sI); exact rfl)
    | ((with_reducible apply lm_sR); exact rfl)
    | ((with_reducible apply lm_sS); exact rfl; exact rfl)
    | ((with_reducible apply lm_sL); exact rfl)
    | ((with_reducible apply lm_sP); exact rfl; exact rfl)
    | ((with_reducible apply lm_sPL); exact rfl; exact rfl)
    | ((with_reducible apply lm_sAA); exact rfl; first | exact rfl | exact lm_roO (by omega) | exact lm_roM (by omega))
    | ((with_reducible apply lm_sI); exact lm_fpL (by omega))
    | ((with_reducible apply lm_sR); exact lm_fpB (by omega))
    | ((with_reducible apply lm_sP); exact lm_fpL (by omega); exact rfl)
    | ((with_reducible apply lm_sS); exact lm_ocO (by omega); exact rfl)
    | ((with_reducible apply lm_sA); exact rfl; omega)
    | ((with_reducible apply lm_sJ); exact rfl; omega)
    | ((with_reducible apply lm_sB); (first | exact rfl | exact lm_arB (by omega) | exact lm_arM (by omega)); omega)
    | ((with_reducible apply lm_wA); exact rfl; omega)
    | ((with_reducible apply lm_wJ); exact rfl; omega)
    | ((with_reducible apply lm_wB); (first | exact rfl | exact lm_arB (by omega) | exact lm_arM (by omega)); omega)
    | ((with_reducible apply lm_sAl); (first | exact rfl | exact lm_arB (by omega) | exact lm_arM (by omega)); omega)
    | ((with_reducible apply lm_iW); decide)
    | ((with_reducible apply lm_iTd); exact rfl)
    | ((with_reducible apply lm_iFd); exact rfl)
    | ((with_reducible apply lm_sSt); exact rfl; exact rfl; exact rfl)
    | ((with_reducible apply lm_sIz); exact rfl)
    | ((with_reducible apply lm_sPz); exact rfl; exact rfl; decide))
    refine lm_e68_47 ?_
    unfold lm_q68_47
    rw [lm_K0]
    repeat (first
    | ((with_reducible apply lm_sI); exact rfl)
    | ((with_reducible apply lm_sR); exact rfl)
    | ((with_reducible apply lm_sS); exact rfl; exact rfl)
    | ((with_reducible apply lm_sL); exact rfl)
    | ((with_reducible apply lm_sP); exact rfl; exact rfl)
    | ((with_reducible apply lm_sPL); exact rfl; exact rfl)
    | ((with_reducible apply lm_sAA); exact rfl; first | exact rfl | exact lm_roO (by omega) | exact lm_roM (by omega))
    | ((with_reducible apply lm_sI); exact lm_fpL (by omega))
    | ((with_reducible apply lm_sR); exact lm_fpB (by omega))
    | ((with_reducible apply lm_sP); exact lm_fpL (by omega); exact rfl)
    | ((with_reducible apply lm_sS); exact lm_ocO (by omega); exact rfl)
    | ((with_reducible apply lm_sA); exact rfl; omega)
    | ((with_reducible apply lm_sJ); exact rfl; omega)
    | ((with_reducible apply lm_sB); (first | exact rfl | exact lm_arB (by omega) | exact lm_arM (by omega)); omega)
    | ((with_reducible apply lm_wA); exact rfl; omega)
    | ((with_reducible apply lm_wJ); exact rfl; omega)
    | ((with_reducible apply lm_wB); (first | exact rfl | exact lm_arB (by omega) | exact lm_arM (by omega)); omega)
    | ((with_reducible apply lm_sAl); (first | exact rfl | exact lm_arB (by omega) | exact lm_arM (by omega)); omega)
    | ((with_reducible apply lm_iW); decide)
    | ((with_reducible apply lm_iTd); exact rfl)
    | ((with_reducible apply lm_iFd); exact rfl)
    | ((with_reducible apply lm_sSt); exact rfl; exact rfl; exact rfl)
    | ((with_reducible apply lm_sIz); exact rfl)
    | ((with_reducible apply lm_sPz); exact rfl; exact rfl; decide))
    exact K
end LMRT
