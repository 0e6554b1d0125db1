/-! ===== the class's transform of Dsa ===== -/
def lm_zd (k : Nat) : Int := ((1753 ^ lm_br 8 k % 8380417 : Nat) : Int)
theorem lm_zd_b (k : Nat) : -8380416 ≤ lm_zd k ∧ lm_zd k ≤ 8380416 := by
  unfold lm_zd
  have := Nat.mod_lt (1753 ^ lm_br 8 k) (show 0 < 8380417 by decide)
  omega
set_option maxRecDepth 100000 in
theorem lm_zd_sq : ∀ k, k < 256 → 1 ≤ k → lm_zd k * lm_zd k % 8380417 = lm_gm lm_zd k % 8380417 := by decide +kernel
/-- the transform of Dsa -/
def ln_pt (F : Nat → Int) (j : Nat) : Int := ln_sg 256 (fun t => F t * lm_gm lm_zd (256 + j) ^ t)
theorem lm_lay_d : ∀ t, t < 8 → 2 ^ t * (2 * (128 / 2 ^ t)) = 256 ∧ 1 ≤ 128 / 2 ^ t ∧ 256 / 2 ^ t = 2 * (128 / 2 ^ t) ∧ 256 / 2 ^ (t + 1) = 128 / 2 ^ t ∧ 2 ^ (t + 1) = 2 * 2 ^ t ∧ 2 ^ t ≤ 128 ∧ 1 ≤ 2 ^ t ∧ 128 / 2 ^ t ≤ 128 ∧ (Int32.ofNat (128 / 2 ^ t)) >>> ((Int32.ofInt 1) &&& 31) = Int32.ofNat (128 / 2 ^ (t + 1)) := by decide
section LMDN
variable {sc : lm_H} {d : Nat} {m m0 : lm_MI} {n : lm_ML} {x : lm_H × Nat × Nat} {p : Nat} {G : Nat → Int}
/-- a product, reduced, in long numbers -/
theorem lm_pd {a b : Int} (ha : -8380416 ≤ a ∧ a ≤ 8380416) (hb : -2147483648 ≤ b ∧ b ≤ 2147483647) : Int64.toInt32 (lm_remL (Int64.ofInt a * Int32.toInt64 (Int32.ofInt b)) (Int64.ofNat 8380417)) = Int32.ofInt ((a * b).tmod 8380417) := by
  have hm := lm_mulb ha (B := 2147483648) ⟨hb.1, by omega⟩
  rw [lm_il hb.1 (by omega), lm_LM, lm_LN, lm_LR (by omega) (by omega) (by decide) (by decide), ln_li]
  rfl
theorem lm_l236b {c s : Nat} {z2 : Int32} {Z : Int} {L : Nat → Int} (hp : lm_ar p = some (0, 256)) (hZ : -8380416 ≤ Z ∧ Z ≤ 8380416) (hb : lm_bnd 2000000000 G) (hs : c + 2 * s ≤ 256) (hL : ∀ r, r < s → L (c + r) = G (c + r) + (Z * G (c + r + s)).tmod 8380417 ∧ L (c + r + s) = G (c + r) - (Z * G (c + r + s)).tmod 8380417) (h : lm_PA m0 m p (lm_HL L G s c 0)) : ∃ m', lm_PA m0 m' p (lm_HL L G s c s) ∧ ∀ R, lm_rn sc d lm_m236.2.2.2.2.1 (lm_reg lm_m236.2.2.2.2.2) (38, [(0, .ref 76), (1, .ref p), (2, .int z2), (3, .int (Int32.ofNat s)), (4, .int (Int32.ofNat c)), (5, .long (Int64.ofInt Z)), (7, .int (Int32.ofNat (c + s)))], []) (lm_w m' n x) = some R → lm_rn sc d lm_m236.2.2.2.2.1 (lm_reg lm_m236.2.2.2.2.2) (38, [(0, .ref 76), (1, .ref p), (2, .int z2), (3, .int (Int32.ofNat s)), (4, .int (Int32.ofNat c)), (5, .long (Int64.ofInt Z)), (7, .int (Int32.ofNat (c + 0)))], []) (lm_w m n x) = some R := by
  obtain ⟨m', n', ⟨hn, h1⟩, h2⟩ := lm_lp (sc := sc) (d := d) (b := s) (hs := lm_m236.2.2.2.2.1) (code := lm_reg lm_m236.2.2.2.2.2) (x := x) (fr := fun r => (38, [(0, .ref 76), (1, .ref p), (2, .int z2), (3, .int (Int32.ofNat s)), (4, .int (Int32.ofNat c)), (5, .long (Int64.ofInt Z)), (7, .int (Int32.ofNat (c + r)))], [])) (I := fun r m' n' => n' = n ∧ lm_PA m0 m' p (lm_HL L G s c r)) (fun r hr m1 n1 ⟨en, h1⟩ => by
    have g1 : m1 p (c + r) = Int32.ofInt (G (c + r)) := by
      rw [h1.2 _ (by omega)]
      unfold lm_HL
      rw [if_neg (by omega)]
    have g2 : m1 p (c + r + s) = Int32.ofInt (G (c + r + s)) := by
      rw [h1.2 _ (by omega)]
      unfold lm_HL
      rw [if_neg (by omega)]
    have hm := hb (c + r + s) (by omega)
    refine ⟨?m', ?n', ?_, fun R K => lm_e236_38 ?run⟩
    case run =>
      unfold lm_q236_38
      simp only [lm_oo]
      refine lm_geF (by omega) (by omega) (by omega) ?_
      repeat (first
    | ((with_reducible apply lm_sI); exact rfl)
    | ((with_reducible apply lm_sR); exact rfl)
    | ((with_reducible apply lm_sS); exact rfl; exact rfl)
    | ((with_reducible apply lm_sL); exact rfl)
    | ((with_reducible apply lm_sP); exact rfl; exact rfl)
    | ((with_reducible apply lm_sPL); exact rfl; exact rfl)
    | ((with_reducible apply lm_sAA); exact rfl; exact rfl)
    | ((with_reducible apply lm_sA); (first | exact rfl | assumption); omega)
    | ((with_reducible apply lm_sJ); (first | exact rfl | assumption); omega)
    | ((with_reducible apply lm_sB); (first | exact rfl | assumption); omega)
    | ((with_reducible apply lm_wA); (first | exact rfl | assumption); omega)
    | ((with_reducible apply lm_wJ); (first | exact rfl | assumption); omega)
    | ((with_reducible apply lm_wB); (first | exact rfl | assumption); omega)
    | ((with_reducible apply lm_sAl); (first | exact rfl | assumption); omega)
    | ((with_reducible apply lm_iW); decide))
      rw [lm_K1, lm_oo]
      exact K
    · refine ⟨en, h1.st hr (by omega) (fun q hq => by rw [lm_u_row hq, lm_u_row hq]) ?_ ?_ (fun j j1 j2 => by rw [lm_u_ne (by omega), lm_u_ne (by omega)])⟩
      · rw [lm_u_eq, lm_u_ne (by omega), g1, g2, lm_pd hZ (by omega), lm_iA, (hL r hr).1]
      · rw [lm_u_ne (by omega), lm_u_eq, g1, g2, lm_pd hZ (by omega), lm_iS, (hL r hr).2]) s 0 (by omega) m n ⟨rfl, h⟩
  subst hn
  exact ⟨m', h1, h2⟩
theorem lm_l236l {N s : Nat} (hp : lm_ar p = some (0, 256)) (hp77 : p ≠ 77) (hz : ∀ k, k < 256 → m0 77 k = Int32.ofInt (lm_zd k)) (hN : N * (2 * s) = 256) (hs : 1 ≤ s) (hN2 : N ≤ 128) (hb : lm_bnd 2000000000 G) (h : lm_PA m0 m p G) : ∃ m', lm_PA m0 m' p (lm_LF 8380417 lm_zd N s G) ∧ ∀ R, lm_rn sc d lm_m236.2.2.2.2.1 (lm_reg lm_m236.2.2.2.2.2) (14, [(0, .ref 76), (1, .ref p), (2, .int (Int32.ofNat (N + N))), (3, .int (Int32.ofNat s)), (4, .int (Int32.ofNat (N * (2 * s))))], []) (lm_w m' n x) = some R → lm_rn sc d lm_m236.2.2.2.2.1 (lm_reg lm_m236.2.2.2.2.2) (14, [(0, .ref 76), (1, .ref p), (2, .int (Int32.ofNat (N + 0))), (3, .int (Int32.ofNat s)), (4, .int (Int32.ofNat (0 * (2 * s))))], []) (lm_w m n x) = some R := by
  obtain ⟨m', n', ⟨hn, h1⟩, h2⟩ := lm_lp (sc := sc) (d := d) (b := N) (hs := lm_m236.2.2.2.2.1) (code := lm_reg lm_m236.2.2.2.2.2) (x := x) (fr := fun b => (14, [(0, .ref 76), (1, .ref p), (2, .int (Int32.ofNat (N + b))), (3, .int (Int32.ofNat s)), (4, .int (Int32.ofNat (b * (2 * s))))], [])) (I := fun b m' n' => n' = n ∧ lm_PA m0 m' p (lm_HL (lm_LF 8380417 lm_zd N s G) G s (b * (2 * s)) 0)) (fun b hb1 m1 n1 ⟨en, h1⟩ => by
    have hc : b * (2 * s) + 2 * s ≤ 256 := by
      rw [← hN, ← Nat.succ_mul]
      exact Nat.mul_le_mul_right _ hb1
    have hzb := lm_zd_b (N + b)
    obtain ⟨m2, h2, k2⟩ := lm_l236b (sc := sc) (d := d) (n := n) (x := x) (z2 := Int32.ofNat (N + b + 1)) (Z := lm_zd (N + b)) hp hzb hb hc (fun r hr => ⟨lm_LF_lo hr, lm_LF_hi hr⟩) h1
    refine ⟨m2, n, ⟨rfl, ?_⟩, fun R K => lm_e236_14 ?_⟩
    · rw [Nat.succ_mul, ← lm_HL_nx]
      exact h2
    · subst en
      unfold lm_q236_14
      rw [lm_K256]
      refine lm_geF (by omega) (by omega) (by omega) ?_
      repeat (first
    | ((with_reducible apply lm_sI); exact rfl)
    | ((with_reducible apply lm_sR); exact rfl)
    | ((with_reducible apply lm_sS); exact rfl; exact rfl)
    | ((with_reducible apply lm_sL); exact rfl)
    | ((with_reducible apply lm_sP); exact rfl; exact rfl)
    | ((with_reducible apply lm_sPL); exact rfl; exact rfl)
    | ((with_reducible apply lm_sAA); exact rfl; exact rfl)
    | ((with_reducible apply lm_sA); (first | exact rfl | assumption); omega)
    | ((with_reducible apply lm_sJ); (first | exact rfl | assumption); omega)
    | ((with_reducible apply lm_sB); (first | exact rfl | assumption); omega)
    | ((with_reducible apply lm_wA); (first | exact rfl | assumption); omega)
    | ((with_reducible apply lm_wJ); (first | exact rfl | assumption); omega)
    | ((with_reducible apply lm_wB); (first | exact rfl | assumption); omega)
    | ((with_reducible apply lm_sAl); (first | exact rfl | assumption); omega)
    | ((with_reducible apply lm_iW); decide))
      rw [h1.1 77 (fun e => hp77 e.symm), hz _ (by omega), lm_K1, lm_oo, lm_il (by omega) (by omega)]
      refine k2 R (lm_e236_38 ?_)
      unfold lm_q236_38
      simp only [lm_oo, lm_K2, lm_om]
      refine lm_geT (by omega) (by omega) (by omega) ?_
      rw [Nat.succ_mul] at K
      exact K) N 0 (by omega) m n ⟨rfl, by rw [Nat.zero_mul, lm_HL_0]; exact h⟩
  subst hn
  refine ⟨m', h1.hl fun j hj => ?_, h2⟩
  unfold lm_HL
  rw [if_pos (by omega)]
/-- toPoints -/
theorem lm_u236 {B : Int} (hp : lm_ar p = some (0, 256)) (hp77 : p ≠ 77) (hz : ∀ k, k < 256 → m 77 k = Int32.ofInt (lm_zd k)) (hB : B ≤ 1900000000) (hb : lm_bnd B G) (hG : ∀ j, j < 256 → m p j = Int32.ofInt (G j)) : ∃ m' U, lm_cal sc (d + 1) 236 [.ref 76, .ref p] (lm_w m n x) = some (.ok none, lm_w m' n x) ∧ lm_PA m m' p U ∧ (∀ j, j < 256 → ln_cg 8380417 (U j) (ln_pt G j)) ∧ lm_bnd (B + 67043336) U := by
  obtain ⟨m', n', ⟨hn, Gt, h1, f1, b1⟩, h2⟩ := lm_lp (sc := sc) (d := d) (b := 8) (hs := lm_m236.2.2.2.2.1) (code := lm_reg lm_m236.2.2.2.2.2) (x := x) (fr := fun t => (6, [(0, .ref 76), (1, .ref p), (2, .int (Int32.ofNat (2 ^ t))), (3, .int (Int32.ofNat (128 / 2 ^ t)))], [])) (I := fun t m' n' => n' = n ∧ ∃ Gt, lm_PA m m' p Gt ∧ lm_NF 8380417 lm_zd G (2 ^ t) (256 / 2 ^ t) Gt ∧ lm_bnd (B + 8380417 * t) Gt) (fun t ht m1 n1 ⟨en, Gt, h1, f1, b1⟩ => by
    obtain ⟨a1, a2, a3, a4, a5, a6, a7, a8, a9⟩ := lm_lay_d t ht
    have hbb : lm_bnd 2000000000 Gt := fun j hj => by have := b1 j hj; omega
    obtain ⟨m2, h2, k2⟩ := lm_l236l (sc := sc) (d := d) (n := n) (x := x) hp hp77 hz a1 a2 a6 hbb h1
    refine ⟨m2, n, ⟨rfl, _, h2, ?_, ?_⟩, fun R K => lm_e236_6 ?_⟩
    · rw [a4, a5]
      rw [a3] at f1
      exact lm_LF_NF f1 fun b hb => ln_cg.ofe (lm_zd_sq _ (by omega) (by omega))
    · have := lm_LF_bnd (z := lm_zd) (show (0 : Int) < 8380417 by decide) a1 b1
      intro j hj
      have := this j hj
      omega
    · subst en
      unfold lm_q236_6
      rw [lm_K1]
      refine lm_ltF (by omega) (by omega) (by omega) ?_
      rw [lm_K0]
      rw [Nat.add_zero, Nat.zero_mul] at k2
      refine k2 R (lm_e236_14 ?_)
      unfold lm_q236_14
      rw [lm_K256]
      refine lm_geT (by omega) (by omega) (by omega) ?_
      rw [a9, ← Nat.two_mul, ← a5]
      exact K) 8 0 (by omega) m n ⟨rfl, G, ⟨fun _ _ => rfl, hG⟩, lm_NF_0, by intro j hj; have := hb j hj; omega⟩
  subst hn
  refine ⟨m', Gt, ?_, h1, fun j hj => ?_, fun j hj => by have := b1 j hj; omega⟩
  · refine lm_cal_of (Y := lm_m236) rfl rfl (lm_e236_0 ?_)
    unfold lm_q236_0
    rw [lm_K1, lm_K128]
    refine h2 _ (lm_e236_6 ?_)
    unfold lm_q236_6
    rw [lm_K1]
    refine lm_ltT (by decide) (by decide) (by decide) ?_
    rfl
  · have := f1 j 0 hj (by decide)
    rw [show j * (256 / 2 ^ 8) + 0 = j by omega] at this
    refine this.tr (ln_cg.of ?_)
    unfold ln_pt
    refine lm_sg_ext fun t ht => ?_
    rw [show 0 + t * (256 / 2 ^ 8) = t by omega]
end LMDN
