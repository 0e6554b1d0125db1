/-! ===== the class's way back of Dsa ===== -/
def lm_ddk (i : Nat) : Nat := 1753 ^ (512 - (2 * lm_br 8 i + 1)) % 8380417
def lm_zdN (k : Nat) : Nat := 1753 ^ lm_br 8 k % 8380417
set_option maxRecDepth 100000 in
theorem lm_ddk_ok : ∀ t, t < 8 → ∀ b, b < 128 / 2 ^ t → ∀ c, c < 2 ^ t → lm_ddk (2 * b * 2 ^ t + c) ^ 2 ^ t % 8380417 = 8380417 - lm_zdN (2 * (128 / 2 ^ t) - 1 - b) ∧ lm_ddk ((2 * b + 1) * 2 ^ t + c) ^ 2 ^ t % 8380417 = lm_zdN (2 * (128 / 2 ^ t) - 1 - b) := by decide +kernel
def lm_dD (i : Nat) : Int := (lm_ddk i : Int)
theorem lm_dD_ok {t b c : Nat} (ht : t < 8) (hb : b < 128 / 2 ^ t) (hc : c < 2 ^ t) : ln_cg 8380417 (lm_dD (2 * b * 2 ^ t + c) ^ 2 ^ t) (-lm_zd (2 * (128 / 2 ^ t) - 1 - b)) ∧ ln_cg 8380417 (lm_dD ((2 * b + 1) * 2 ^ t + c) ^ 2 ^ t) (lm_zd (2 * (128 / 2 ^ t) - 1 - b)) := by
  obtain ⟨h1, h2⟩ := lm_ddk_ok t ht b hb c hc
  have e : lm_zd (2 * (128 / 2 ^ t) - 1 - b) = (lm_zdN (2 * (128 / 2 ^ t) - 1 - b) : Int) := rfl
  have l : lm_zdN (2 * (128 / 2 ^ t) - 1 - b) < 8380417 := Nat.mod_lt _ (by decide)
  unfold lm_dD
  rw [e, ← Int.natCast_pow, ← Int.natCast_pow]
  generalize lm_ddk (2 * b * 2 ^ t + c) ^ 2 ^ t = A at *
  generalize lm_ddk ((2 * b + 1) * 2 ^ t + c) ^ 2 ^ t = A2 at *
  generalize lm_zdN (2 * (128 / 2 ^ t) - 1 - b) = z at *
  refine ⟨ln_cg.ofe ?_, ln_cg.ofe ?_⟩
  · omega
  · omega
/-- the way back of Dsa -/
def lm_ut (A : Nat → Int) (j : Nat) : Int := ln_sg 256 (fun c => A c * lm_dD c ^ j) * 8347681
theorem lm_lay_e : ∀ t, t < 8 → 128 / 2 ^ t * (2 * 2 ^ t) = 256 ∧ 2 ^ (t + 1) = 2 * 2 ^ t ∧ 256 / 2 ^ t = 2 * (128 / 2 ^ t) ∧ 256 / 2 ^ (t + 1) = 128 / 2 ^ t ∧ 128 / 2 ^ t ≤ 128 ∧ 1 ≤ 128 / 2 ^ t ∧ 2 ^ t ≤ 128 ∧ 1 ≤ 2 ^ t ∧ 2 * (128 / 2 ^ t) - 1 - 128 / 2 ^ t = 256 / 2 ^ (t + 1) - 1 ∧ (Int32.ofNat (2 ^ t)) <<< ((Int32.ofInt 1) &&& 31) = Int32.ofNat (2 ^ (t + 1)) := by decide
section LMDI
variable {sc : lm_H} {d : Nat} {m m0 : lm_MI} {n : lm_ML} {x : lm_H × Nat × Nat} {p : Nat} {G : Nat → Int}
theorem lm_xgeL {a b : Int64} (hb : 0 ≤ b.toInt) : (0 : Int64) ≤ a ^^^ b ↔ 0 ≤ a.toInt := by
  rw [Int64.le_iff_toInt_le]
  have e : (a ^^^ b).toInt = (a.toBitVec ^^^ b.toBitVec).toInt := rfl
  have e0 : (0 : Int64).toInt = 0 := rfl
  have h1 : a.toBitVec.msb = decide (a.toBitVec.toInt < 0) := BitVec.msb_eq_toInt
  have h2 : b.toBitVec.msb = decide (b.toBitVec.toInt < 0) := BitVec.msb_eq_toInt
  have h3 : (a.toBitVec ^^^ b.toBitVec).msb = decide ((a.toBitVec ^^^ b.toBitVec).toInt < 0) := BitVec.msb_eq_toInt
  have ha : a.toInt = a.toBitVec.toInt := rfl
  have hb' : b.toInt = b.toBitVec.toInt := rfl
  rw [BitVec.msb_xor, h1, h2, decide_eq_false (p := b.toBitVec.toInt < 0) (by omega), Bool.xor_false, decide_eq_decide] at h3
  rw [e, e0, ha]
  omega
theorem lm_l238b {c s : Nat} {z2 : Int32} {Z : Int} {L : Nat → Int} (hp : lm_ar p = some (0, 256)) (hZ : -8380416 ≤ Z ∧ Z ≤ 8380416) (hb : lm_bnd 1073741823 G) (hs : c + 2 * s ≤ 256) (hL : ∀ r, r < s → L (c + r) = G (c + r) + G (c + r + s) ∧ L (c + r + s) = (Z * (G (c + r + s) - G (c + r))).tmod 8380417) (h : lm_PA m0 m p (lm_HL L G s c 0)) : ∃ m', lm_PA m0 m' p (lm_HL L G s c s) ∧ ∀ R, lm_rn sc d lm_m238.2.2.2.2.1 (lm_reg lm_m238.2.2.2.2.2) (40, [(0, .ref 76), (1, .ref p), (2, .int z2), (3, .int (Int32.ofNat s)), (4, .int (Int32.ofNat c)), (5, .long (Int64.ofInt Z)), (7, .int (Int32.ofNat (c + s)))], []) (lm_w m' n x) = some R → lm_rn sc d lm_m238.2.2.2.2.1 (lm_reg lm_m238.2.2.2.2.2) (40, [(0, .ref 76), (1, .ref p), (2, .int z2), (3, .int (Int32.ofNat s)), (4, .int (Int32.ofNat c)), (5, .long (Int64.ofInt Z)), (7, .int (Int32.ofNat (c + 0)))], []) (lm_w m n x) = some R := by
  obtain ⟨m', n', ⟨hn, h1⟩, h2⟩ := lm_lp (sc := sc) (d := d) (b := s) (hs := lm_m238.2.2.2.2.1) (code := lm_reg lm_m238.2.2.2.2.2) (x := x) (fr := fun r => (40, [(0, .ref 76), (1, .ref p), (2, .int z2), (3, .int (Int32.ofNat s)), (4, .int (Int32.ofNat c)), (5, .long (Int64.ofInt Z)), (7, .int (Int32.ofNat (c + r)))], [])) (I := fun r m' n' => n' = n ∧ lm_PA m0 m' p (lm_HL L G s c r)) (fun r hr m1 n1 ⟨en, h1⟩ => by
    have g1 : m1 p (c + r) = Int32.ofInt (G (c + r)) := by
      rw [h1.2 _ (by omega)]
      unfold lm_HL
      rw [if_neg (by omega)]
    have g2 : m1 p (c + r + s) = Int32.ofInt (G (c + r + s)) := by
      rw [h1.2 _ (by omega)]
      unfold lm_HL
      rw [if_neg (by omega)]
    have b1 := hb (c + r + s) (by omega)
    have b2 := hb (c + r) (by omega)
    refine ⟨?m', ?n', ?_, fun R K => lm_e238_40 ?run⟩
    case run =>
      unfold lm_q238_40
      simp only [lm_oo]
      refine lm_geF (by omega) (by omega) (by omega) ?_
      repeat (first
    | ((with_reducible apply lm_sI); exact rfl)
    | ((with_reducible apply lm_sR); exact rfl)
    | ((with_reducible apply lm_sS); exact rfl; exact rfl)
    | ((with_reducible apply lm_sL); exact rfl)
    | ((with_reducible apply lm_sP); exact rfl; exact rfl)
    | ((with_reducible apply lm_sPL); exact rfl; exact rfl)
    | ((with_reducible apply lm_sAA); exact rfl; exact rfl)
    | ((with_reducible apply lm_sA); (first | exact rfl | assumption); omega)
    | ((with_reducible apply lm_sJ); (first | exact rfl | assumption); omega)
    | ((with_reducible apply lm_sB); (first | exact rfl | assumption); omega)
    | ((with_reducible apply lm_wA); (first | exact rfl | assumption); omega)
    | ((with_reducible apply lm_wJ); (first | exact rfl | assumption); omega)
    | ((with_reducible apply lm_wB); (first | exact rfl | assumption); omega)
    | ((with_reducible apply lm_sAl); (first | exact rfl | assumption); omega)
    | ((with_reducible apply lm_iW); decide))
      rw [lm_K1, lm_oo]
      exact K
    · refine ⟨en, h1.st hr (by omega) (fun q hq => by rw [lm_u_row hq, lm_u_row hq]) ?_ ?_ (fun j j1 j2 => by rw [lm_u_ne (by omega), lm_u_ne (by omega)])⟩
      · rw [lm_u_ne (by omega), lm_u_eq, g1, g2, lm_iA, (hL r hr).1]
      · rw [lm_u_eq, lm_u_ne (by omega), g1, g2, lm_iS, lm_pd hZ (by omega), (hL r hr).2]) s 0 (by omega) m n ⟨rfl, h⟩
  subst hn
  exact ⟨m', h1, h2⟩
theorem lm_l238l {N s : Nat} (hp : lm_ar p = some (0, 256)) (hp77 : p ≠ 77) (hz : ∀ k, k < 256 → m0 77 k = Int32.ofInt (lm_zd k)) (hN : N * (2 * s) = 256) (hs : 1 ≤ s) (hN2 : N ≤ 128) (hN1 : 1 ≤ N) (hb : lm_bnd 1073741823 G) (h : lm_PA m0 m p G) : ∃ m', lm_PA m0 m' p (lm_LI 8380417 lm_zd N s G) ∧ ∀ R, lm_rn sc d lm_m238.2.2.2.2.1 (lm_reg lm_m238.2.2.2.2.2) (16, [(0, .ref 76), (1, .ref p), (2, .int (Int32.ofInt ((2 * N - 1 : Nat) - (N : Nat) : Int))), (3, .int (Int32.ofNat s)), (4, .int (Int32.ofNat (N * (2 * s))))], []) (lm_w m' n x) = some R → lm_rn sc d lm_m238.2.2.2.2.1 (lm_reg lm_m238.2.2.2.2.2) (16, [(0, .ref 76), (1, .ref p), (2, .int (Int32.ofInt ((2 * N - 1 : Nat) - (0 : Nat) : Int))), (3, .int (Int32.ofNat s)), (4, .int (Int32.ofNat (0 * (2 * s))))], []) (lm_w m n x) = some R := by
  obtain ⟨m', n', ⟨hn, h1⟩, h2⟩ := lm_lp (sc := sc) (d := d) (b := N) (hs := lm_m238.2.2.2.2.1) (code := lm_reg lm_m238.2.2.2.2.2) (x := x) (fr := fun b => (16, [(0, .ref 76), (1, .ref p), (2, .int (Int32.ofInt ((2 * N - 1 : Nat) - (b : Nat) : Int))), (3, .int (Int32.ofNat s)), (4, .int (Int32.ofNat (b * (2 * s))))], [])) (I := fun b m' n' => n' = n ∧ lm_PA m0 m' p (lm_HL (lm_LI 8380417 lm_zd N s G) G s (b * (2 * s)) 0)) (fun b hb1 m1 n1 ⟨en, h1⟩ => by
    have hc : b * (2 * s) + 2 * s ≤ 256 := by
      rw [← hN, ← Nat.succ_mul]
      exact Nat.mul_le_mul_right _ hb1
    have hzb := lm_zd_b (2 * N - 1 - b)
    obtain ⟨m2, h2, k2⟩ := lm_l238b (sc := sc) (d := d) (n := n) (x := x) (z2 := Int32.ofInt ((2 * N - 1 : Nat) - ((b + 1 : Nat) : Nat) : Int)) (Z := lm_zd (2 * N - 1 - b)) hp hzb hb hc (fun r hr => ⟨lm_LI_lo hr, lm_LI_hi hr⟩) h1
    refine ⟨m2, n, ⟨rfl, ?_⟩, fun R K => lm_e238_16 ?_⟩
    · rw [Nat.succ_mul, ← lm_HL_nx]
      exact h2
    · subst en
      unfold lm_q238_16
      rw [lm_K256]
      refine lm_geF (by omega) (by omega) (by omega) ?_
      rw [show Int32.ofInt ((2 * N - 1 : Nat) - (b : Nat) : Int) + Int32.ofInt (-1) = Int32.ofInt ((2 * N - 1 : Nat) - ((b + 1 : Nat) : Nat) : Int) by rw [lm_iA]; congr 1; omega]
      rw [show Int32.ofInt ((2 * N - 1 : Nat) - (b : Nat) : Int) = Int32.ofNat (2 * N - 1 - b) by rw [lm_oN]; congr 1; omega]
      repeat (first
    | ((with_reducible apply lm_sI); exact rfl)
    | ((with_reducible apply lm_sR); exact rfl)
    | ((with_reducible apply lm_sS); exact rfl; exact rfl)
    | ((with_reducible apply lm_sL); exact rfl)
    | ((with_reducible apply lm_sP); exact rfl; exact rfl)
    | ((with_reducible apply lm_sPL); exact rfl; exact rfl)
    | ((with_reducible apply lm_sAA); exact rfl; exact rfl)
    | ((with_reducible apply lm_sA); (first | exact rfl | assumption); omega)
    | ((with_reducible apply lm_sJ); (first | exact rfl | assumption); omega)
    | ((with_reducible apply lm_sB); (first | exact rfl | assumption); omega)
    | ((with_reducible apply lm_wA); (first | exact rfl | assumption); omega)
    | ((with_reducible apply lm_wJ); (first | exact rfl | assumption); omega)
    | ((with_reducible apply lm_wB); (first | exact rfl | assumption); omega)
    | ((with_reducible apply lm_sAl); (first | exact rfl | assumption); omega)
    | ((with_reducible apply lm_iW); decide))
      rw [h1.1 77 (fun e => hp77 e.symm), hz _ (by omega), lm_il (by omega) (by omega)]
      refine k2 R (lm_e238_40 ?_)
      unfold lm_q238_40
      simp only [lm_oo, lm_K2, lm_om]
      refine lm_geT (by omega) (by omega) (by omega) ?_
      rw [Nat.succ_mul b (2 * s)] at K
      exact K) N 0 (by omega) m n ⟨rfl, by rw [Nat.zero_mul, lm_HL_0]; exact h⟩
  subst hn
  refine ⟨m', h1.hl fun j hj => ?_, h2⟩
  unfold lm_HL
  rw [if_pos (by omega)]
end LMDI
