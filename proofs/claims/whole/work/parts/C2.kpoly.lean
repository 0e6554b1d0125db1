/-! ===== polynomials of the class: layers ===== -/
/-- array p holds G, nothing else has changed -/
def lm_PA (m0 m : lm_MI) (p : Nat) (G : Nat → Int) : Prop := (∀ q, q ≠ p → m q = m0 q) ∧ ∀ j, j < 256 → m p j = Int32.ofInt (G j)
/-- all numbers within B -/
def lm_bnd (B : Int) (G : Nat → Int) : Prop := ∀ j, j < 256 → -B ≤ G j ∧ G j ≤ B
theorem lm_tmb {a q : Int} (hq : 0 < q) : -q < a.tmod q ∧ a.tmod q < q := ⟨by
  rcases Int.le_total 0 a with h | h
  · have := Int.tmod_nonneg q h
    omega
  · have := Int.tmod_nonneg q (a := -a) (by omega)
    have h2 := Int.tmod_lt_of_pos (-a) hq
    rw [Int.neg_tmod] at h2
    omega, Int.tmod_lt_of_pos a hq⟩
def lm_LF (q : Int) (z : Nat → Int) (N s : Nat) (G : Nat → Int) (j : Nat) : Int := if j % (2 * s) < s then G j + (z (N + j / (2 * s)) * G (j + s)).tmod q else G (j - s) - (z (N + j / (2 * s)) * G j).tmod q
def lm_LI (q : Int) (z : Nat → Int) (N s : Nat) (G : Nat → Int) (j : Nat) : Int := if j % (2 * s) < s then G j + G (j + s) else (z (2 * N - 1 - j / (2 * s)) * (G j - G (j - s))).tmod q
section LMLY
variable {q B : Int} {z G : Nat → Int} {N s b r : Nat}
theorem ln_dm2 (hr : r < 2 * s) : (b * (2 * s) + r) / (2 * s) = b ∧ (b * (2 * s) + r) % (2 * s) = r := by
  have h : 0 < 2 * s := by omega
  rw [Nat.add_comm, Nat.add_mul_div_right _ _ h, Nat.div_eq_of_lt hr, Nat.zero_add, Nat.add_mul_mod_self_right, Nat.mod_eq_of_lt hr]
  exact ⟨rfl, rfl⟩
theorem lm_LF_lo (hr : r < s) : lm_LF q z N s G (b * (2 * s) + r) = G (b * (2 * s) + r) + (z (N + b) * G (b * (2 * s) + r + s)).tmod q := by
  unfold lm_LF
  rw [(ln_dm2 (b := b) (show r < 2 * s by omega)).1, (ln_dm2 (b := b) (show r < 2 * s by omega)).2, if_pos hr]
theorem lm_LF_hi (hr : r < s) : lm_LF q z N s G (b * (2 * s) + r + s) = G (b * (2 * s) + r) - (z (N + b) * G (b * (2 * s) + r + s)).tmod q := by
  unfold lm_LF
  rw [Nat.add_assoc, (ln_dm2 (b := b) (show r + s < 2 * s by omega)).1, (ln_dm2 (b := b) (show r + s < 2 * s by omega)).2, if_neg (by omega), ← Nat.add_assoc, Nat.add_sub_cancel]
theorem lm_LI_lo (hr : r < s) : lm_LI q z N s G (b * (2 * s) + r) = G (b * (2 * s) + r) + G (b * (2 * s) + r + s) := by
  unfold lm_LI
  rw [(ln_dm2 (b := b) (show r < 2 * s by omega)).2, if_pos hr]
theorem lm_LI_hi (hr : r < s) : lm_LI q z N s G (b * (2 * s) + r + s) = (z (2 * N - 1 - b) * (G (b * (2 * s) + r + s) - G (b * (2 * s) + r))).tmod q := by
  unfold lm_LI
  rw [Nat.add_assoc, (ln_dm2 (b := b) (show r + s < 2 * s by omega)).1, (ln_dm2 (b := b) (show r + s < 2 * s by omega)).2, if_neg (by omega), ← Nat.add_assoc, Nat.add_sub_cancel]
theorem lm_LF_j (hN : N * (2 * s) = 256) {j : Nat} (hj : j < 256) : (j % (2 * s) < s → j + s < 256) ∧ j - s < 256 := by
  refine ⟨fun h => ?_, by omega⟩
  have e := Nat.div_add_mod j (2 * s)
  have h1 : j / (2 * s) < N := Nat.div_lt_of_lt_mul (by rw [Nat.mul_comm, hN]; exact hj)
  have h2 : 2 * s * (j / (2 * s)) + 2 * s ≤ 256 := by
    rw [← hN, Nat.mul_comm (2 * s), ← Nat.succ_mul]
    exact Nat.mul_le_mul_right _ h1
  omega
theorem lm_LF_bnd (hq : 0 < q) (hN : N * (2 * s) = 256) (h : lm_bnd B G) : lm_bnd (B + q) (lm_LF q z N s G) := by
  intro j hj
  have hj2 := lm_LF_j hN hj
  unfold lm_LF
  split
  · rename_i c
    have t := lm_tmb (a := z (N + j / (2 * s)) * G (j + s)) hq
    have := h j hj
    omega
  · have t := lm_tmb (a := z (N + j / (2 * s)) * G j) hq
    have := h (j - s) hj2.2
    omega
theorem lm_LI_bnd (hq : 0 < q) (hB : q ≤ 2 * B) (hN : N * (2 * s) = 256) (h : lm_bnd B G) : lm_bnd (2 * B) (lm_LI q z N s G) := by
  intro j hj
  have hj2 := lm_LF_j hN hj
  unfold lm_LI
  split
  · rename_i c
    have h1 := h j hj
    have h2 := h (j + s) (hj2.1 c)
    omega
  · have t := lm_tmb (a := z (2 * N - 1 - j / (2 * s)) * (G j - G (j - s))) hq
    omega
theorem lm_LF_NF {F : Nat → Int} (h : lm_NF q z F N (2 * s) G) (hz : ∀ b, b < N → ln_cg q (z (N + b) * z (N + b)) (lm_gm z (N + b))) : lm_NF q z F (2 * N) s (lm_LF q z N s G) := by
  refine lm_NF_step h hz fun b r hb hr => ⟨?_, ?_⟩
  · rw [lm_LF_lo hr, ← Nat.add_assoc]
    exact ln_cg.rf.ad ln_cg.tm
  · rw [← Nat.add_assoc, lm_LF_hi hr]
    exact ln_cg.rf.sb ln_cg.tm
theorem lm_LI_NI {D A : Nat → Int} {E M : Nat} (h : lm_NI q D A E M (2 * N) G) (hs : s = M * E) (hz : ∀ b c, b < N → c < M → ln_cg q (D (2 * b * M + c) ^ M) (-z (2 * N - 1 - b)) ∧ ln_cg q (D ((2 * b + 1) * M + c) ^ M) (z (2 * N - 1 - b))) : lm_NI q D A E (2 * M) N (lm_LI q z N s G) := by
  refine lm_NI_step (z := fun b => z (2 * N - 1 - b)) h hz fun b u r hb hu hr => ?_
  have h1 : u * E + r < s := by
    have : (u + 1) * E ≤ M * E := Nat.mul_le_mul_right E hu
    rw [Nat.succ_mul] at this
    omega
  rw [show 2 * M * E = 2 * s by rw [hs, Nat.mul_assoc], ← hs, show b * (2 * s) + (s + (u * E + r)) = b * (2 * s) + (u * E + r) + s by omega]
  refine ⟨?_, ?_⟩
  · rw [lm_LI_lo h1]
    exact ln_cg.rf
  · rw [lm_LI_hi h1]
    exact ln_cg.tm
end LMLY
/-- a layer half done: blocks up to c, and r of the block at c -/
def lm_HL (L G : Nat → Int) (s c r : Nat) (j : Nat) : Int := if j < c ∨ (c ≤ j ∧ j < c + r) ∨ (c + s ≤ j ∧ j < c + s + r) then L j else G j
section LMHL
variable {L G : Nat → Int} {s c r : Nat} {m0 m : lm_MI} {p : Nat}
theorem lm_PA.st {m' : lm_MI} (h : lm_PA m0 m p (lm_HL L G s c r)) (hr : r < s) (h256 : c + r + s < 256) (e1 : ∀ q, q ≠ p → m' q = m q) (e2 : m' p (c + r) = Int32.ofInt (L (c + r))) (e3 : m' p (c + r + s) = Int32.ofInt (L (c + r + s))) (e4 : ∀ j, j ≠ c + r → j ≠ c + r + s → m' p j = m p j) : lm_PA m0 m' p (lm_HL L G s c (r + 1)) := by
  refine ⟨fun q hq => (e1 q hq).trans (h.1 q hq), fun j hj => ?_⟩
  by_cases c1 : j = c + r
  · subst c1
    rw [e2]
    unfold lm_HL
    rw [if_pos (by omega)]
  · by_cases c2 : j = c + r + s
    · subst c2
      rw [e3]
      unfold lm_HL
      rw [if_pos (by omega)]
    · rw [e4 j c1 c2, h.2 j hj]
      unfold lm_HL
      by_cases c3 : j < c ∨ (c ≤ j ∧ j < c + r) ∨ (c + s ≤ j ∧ j < c + s + r)
      · rw [if_pos c3, if_pos (by omega)]
      · rw [if_neg c3, if_neg (by omega)]
theorem lm_HL_0 : lm_HL L G s 0 0 = G := by
  funext j
  unfold lm_HL
  rw [if_neg (by omega)]
theorem lm_HL_nx : lm_HL L G s c s = lm_HL L G s (c + 2 * s) 0 := by
  funext j
  unfold lm_HL
  by_cases c3 : j < c ∨ (c ≤ j ∧ j < c + s) ∨ (c + s ≤ j ∧ j < c + s + s)
  · rw [if_pos c3, if_pos (by omega)]
  · rw [if_neg c3, if_neg (by omega)]
theorem lm_PA.hl {G' : Nat → Int} (h : lm_PA m0 m p G) (e : ∀ j, j < 256 → G j = G' j) : lm_PA m0 m p G' := ⟨h.1, fun j hj => by rw [h.2 j hj, e j hj]⟩
end LMHL
/-! ===== floorMod, reduce ===== -/
theorem lm_xge {a b : Int32} (hb : 0 ≤ b.toInt) : (0 : Int32) ≤ a ^^^ b ↔ 0 ≤ a.toInt := by
  rw [Int32.le_iff_toInt_le]
  have e : (a ^^^ b).toInt = (a.toBitVec ^^^ b.toBitVec).toInt := rfl
  have e0 : (0 : Int32).toInt = 0 := rfl
  have h1 : a.toBitVec.msb = decide (a.toBitVec.toInt < 0) := BitVec.msb_eq_toInt
  have h2 : b.toBitVec.msb = decide (b.toBitVec.toInt < 0) := BitVec.msb_eq_toInt
  have h3 : (a.toBitVec ^^^ b.toBitVec).msb = decide ((a.toBitVec ^^^ b.toBitVec).toInt < 0) := BitVec.msb_eq_toInt
  have ha : a.toInt = a.toBitVec.toInt := rfl
  have hb' : b.toInt = b.toBitVec.toInt := rfl
  rw [BitVec.msb_xor, h1, h2, decide_eq_false (p := b.toBitVec.toInt < 0) (by omega), Bool.xor_false, decide_eq_decide] at h3
  rw [e, e0, ha]
  omega
section LMFM
variable {sc : lm_H} {d : Nat} {m m0 : lm_MI} {n : lm_ML} {x : lm_H × Nat × Nat} {σ : lm_S} {a q : Int}
theorem lm_u286 (h1 : -2147483648 < a) (h2 : a < 2147483648) (h3 : 0 < q) (h4 : q < 2147483648) : lm_cal sc (d + 1) 286 [.int (Int32.ofInt a), .int (Int32.ofInt q)] σ = some (.ok (some (.int (Int32.ofInt (a % q)))), σ) := by
  refine lm_cal_of (Y := lm_m286) rfl rfl (lm_e286_0 ?_)
  unfold lm_q286_0
  have tq := lm_iT0 (a := q) (by omega) h4
  have ta := lm_iT0 (a := a) (by omega) h2
  have hb := lm_tmb (a := a) h3
  have em := Int.emod_def a q
  have eT := Int.tmod_def a q
  refine lm_iW ?_ ?_
  · intro e
    have := congrArg Int32.toInt e
    rw [tq] at this
    have : (0 : Int32).toInt = 0 := rfl
    omega
  rw [lm_iR h1 h2 (by omega) h4]
  by_cases c : 0 ≤ a
  · refine lm_iT ((lm_xge (by rw [tq]; omega)).mpr (by rw [ta]; exact c)) ?_
    rw [Int.tmod_eq_emod_of_nonneg c]
    rfl
  · refine lm_iF (fun g => c (by rw [← ta]; exact (lm_xge (by rw [tq]; omega)).mp g)) ?_
    have hc : ln_cg q (a.tmod q) a := ln_cg.tm
    by_cases c2 : a.tmod q = 0
    · refine lm_iT (show Int32.ofInt (a.tmod q) = 0 by rw [c2]; rfl) ?_
      rw [← hc.eq, c2, Int.zero_emod]
      rfl
    · refine lm_iF (fun g => c2 ?_) ?_
      · have := congrArg Int32.toInt (show Int32.ofInt (a.tmod q) = 0 from g)
        rw [lm_iT0 (by omega) (by omega)] at this
        exact this
      · rw [lm_iA]
        have hn : a.tmod q ≤ 0 := by
          have := Int.tmod_nonneg q (a := -a) (by omega)
          rw [Int.neg_tmod] at this
          omega
        have : a % q = a.tmod q + q := by
          rw [← hc.eq, ← Int.add_emod_right, Int.emod_eq_of_lt (by omega) (by omega)]
        rw [this]
        rfl
/-- reduce -/
theorem lm_u221 {p : Nat} {G : Nat → Int} (hp : lm_ar p = some (0, 256)) (h : lm_PA m0 m p G) (hb : lm_bnd 2147483647 G) : ∃ m', lm_cal sc (d + 2) 221 [.ref p] (lm_w m n x) = some (.ok none, lm_w m' n x) ∧ lm_PA m0 m' p (fun j => G j % 3329) := by
  obtain ⟨m', n', ⟨hn, h1⟩, h2⟩ := lm_lp (sc := sc) (d := d + 1) (b := 256) (hs := lm_m221.2.2.2.2.1) (code := lm_reg lm_m221.2.2.2.2.2) (x := x) (fr := fun i => (2, [(0, .ref p), (1, .int (Int32.ofNat i))], [])) (I := fun i m' n' => n' = n ∧ lm_PA m0 m' p (fun j => if j < i then G j % 3329 else G j)) (fun i hi m1 n1 ⟨en, h1⟩ => by
    refine ⟨?m', ?n', ?_, fun R K => lm_e221_2 ?run⟩
    case run =>
      unfold lm_q221_2
      rw [lm_K256]
      refine lm_geF (by omega) (by omega) (by omega) ?_
      repeat (first
    | ((with_reducible apply lm_sI); exact rfl)
    | ((with_reducible apply lm_sR); exact rfl)
    | ((with_reducible apply lm_sS); exact rfl; exact rfl)
    | ((with_reducible apply lm_sL); exact rfl)
    | ((with_reducible apply lm_sP); exact rfl; exact rfl)
    | ((with_reducible apply lm_sPL); exact rfl; exact rfl)
    | ((with_reducible apply lm_sAA); exact rfl; exact rfl)
    | ((with_reducible apply lm_sA); (first | exact rfl | assumption); omega)
    | ((with_reducible apply lm_sJ); (first | exact rfl | assumption); omega)
    | ((with_reducible apply lm_sB); (first | exact rfl | assumption); omega)
    | ((with_reducible apply lm_wA); (first | exact rfl | assumption); omega)
    | ((with_reducible apply lm_wJ); (first | exact rfl | assumption); omega)
    | ((with_reducible apply lm_wB); (first | exact rfl | assumption); omega)
    | ((with_reducible apply lm_sAl); (first | exact rfl | assumption); omega)
    | ((with_reducible apply lm_iW); decide))
      have e := h1.2 i hi
      dsimp only at e
      rw [if_neg (by omega)] at e
      rw [e]
      refine lm_cI (lm_u286 (by have := hb i hi; omega) (by have := hb i hi; omega) (by decide) (by decide)) ?_
      repeat (first
    | ((with_reducible apply lm_sI); exact rfl)
    | ((with_reducible apply lm_sR); exact rfl)
    | ((with_reducible apply lm_sS); exact rfl; exact rfl)
    | ((with_reducible apply lm_sL); exact rfl)
    | ((with_reducible apply lm_sP); exact rfl; exact rfl)
    | ((with_reducible apply lm_sPL); exact rfl; exact rfl)
    | ((with_reducible apply lm_sAA); exact rfl; exact rfl)
    | ((with_reducible apply lm_sA); (first | exact rfl | assumption); omega)
    | ((with_reducible apply lm_sJ); (first | exact rfl | assumption); omega)
    | ((with_reducible apply lm_sB); (first | exact rfl | assumption); omega)
    | ((with_reducible apply lm_wA); (first | exact rfl | assumption); omega)
    | ((with_reducible apply lm_wJ); (first | exact rfl | assumption); omega)
    | ((with_reducible apply lm_wB); (first | exact rfl | assumption); omega)
    | ((with_reducible apply lm_sAl); (first | exact rfl | assumption); omega)
    | ((with_reducible apply lm_iW); decide))
      rw [lm_K1, lm_oo]
      exact K
    · refine ⟨en, fun q hq => (lm_u_row hq).trans (h1.1 q hq), fun j hj => ?_⟩
      dsimp only
      by_cases c : j = i
      · subst c
        rw [lm_u_eq, if_pos (by omega)]
      · rw [lm_u_ne (by omega), h1.2 j hj]
        dsimp only
        by_cases c2 : j < i
        · rw [if_pos c2, if_pos (by omega)]
        · rw [if_neg c2, if_neg (by omega)]) 256 0 (by omega) m n ⟨rfl, h.hl fun j _ => by rw [if_neg (by omega)]⟩
  subst hn
  refine ⟨m', ?_, h1.hl fun j hj => by rw [if_pos hj]⟩
  refine lm_cal_of (Y := lm_m221) rfl rfl (lm_e221_0 ?_)
  unfold lm_q221_0
  rw [lm_K0]
  refine h2 _ (lm_e221_2 ?_)
  unfold lm_q221_2
  rw [lm_K256]
  exact lm_geT (by omega) (by omega) (by omega) rfl
end LMFM
