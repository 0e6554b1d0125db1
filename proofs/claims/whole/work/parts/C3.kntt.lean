/-! ===== the class's transform of Kem ===== -/
theorem lm_mulb {a b A B : Int} (h1 : -A ≤ a ∧ a ≤ A) (h2 : -B ≤ b ∧ b ≤ B) : -(A * B) ≤ a * b ∧ a * b ≤ A * B := by
  have hA : (A.toNat : Int) = A := Int.toNat_of_nonneg (by omega)
  have hB : (B.toNat : Int) = B := Int.toNat_of_nonneg (by omega)
  have h := Nat.mul_le_mul (show a.natAbs ≤ A.toNat by omega) (show b.natAbs ≤ B.toNat by omega)
  rw [← Int.natAbs_mul] at h
  have e : ((A.toNat * B.toNat : Nat) : Int) = A * B := by rw [Int.natCast_mul, hA, hB]
  omega
/-- the class's zetas of Kem -/
def lm_zk (k : Nat) : Int := ((17 ^ lm_br 7 k % 3329 : Nat) : Int)
theorem lm_zk_b (k : Nat) : -3328 ≤ lm_zk k ∧ lm_zk k ≤ 3328 := by
  unfold lm_zk
  have := Nat.mod_lt (17 ^ lm_br 7 k) (show 0 < 3329 by decide)
  omega
set_option maxRecDepth 100000 in
theorem lm_zk_sq : ∀ k, k < 128 → 1 ≤ k → lm_zk k * lm_zk k % 3329 = lm_gm lm_zk k % 3329 := by decide +kernel
/-- the transform of Kem -/
def lm_nt (F : Nat → Int) (j : Nat) : Int := ln_sg 128 (fun t => F (j % 2 + t * 2) * lm_gm lm_zk (128 + j / 2) ^ t)
theorem lm_lay_t : ∀ t, t < 7 → 2 ^ t * (2 * (128 / 2 ^ t)) = 256 ∧ 2 ≤ 128 / 2 ^ t ∧ 256 / 2 ^ t = 2 * (128 / 2 ^ t) ∧ 256 / 2 ^ (t + 1) = 128 / 2 ^ t ∧ 2 ^ (t + 1) = 2 * 2 ^ t ∧ 2 ^ t ≤ 64 ∧ 1 ≤ 2 ^ t ∧ 128 / 2 ^ t ≤ 128 ∧ (Int32.ofNat (128 / 2 ^ t)) >>> ((Int32.ofInt 1) &&& 31) = Int32.ofNat (128 / 2 ^ (t + 1)) := by decide
section LMKN
variable {sc : lm_H} {d : Nat} {m m0 : lm_MI} {n : lm_ML} {x : lm_H × Nat × Nat} {p : Nat} {G : Nat → Int}
/-- one block -/
theorem lm_l218b {c s : Nat} {z2 : Int32} {Z : Int} {L : Nat → Int} (hp : lm_ar p = some (0, 256)) (hZ : -3328 ≤ Z ∧ Z ≤ 3328) (hb : lm_bnd 26632 G) (hs : c + 2 * s ≤ 256) (hL : ∀ r, r < s → L (c + r) = G (c + r) + (Z * G (c + r + s)).tmod 3329 ∧ L (c + r + s) = G (c + r) - (Z * G (c + r + s)).tmod 3329) (h : lm_PA m0 m p (lm_HL L G s c 0)) : ∃ m', lm_PA m0 m' p (lm_HL L G s c s) ∧ ∀ R, lm_rn sc d lm_m218.2.2.2.2.1 (lm_reg lm_m218.2.2.2.2.2) (37, [(0, .ref 44), (1, .ref p), (2, .int z2), (3, .int (Int32.ofNat s)), (4, .int (Int32.ofNat c)), (5, .int (Int32.ofInt Z)), (6, .int (Int32.ofNat (c + s)))], []) (lm_w m' n x) = some R → lm_rn sc d lm_m218.2.2.2.2.1 (lm_reg lm_m218.2.2.2.2.2) (37, [(0, .ref 44), (1, .ref p), (2, .int z2), (3, .int (Int32.ofNat s)), (4, .int (Int32.ofNat c)), (5, .int (Int32.ofInt Z)), (6, .int (Int32.ofNat (c + 0)))], []) (lm_w m n x) = some R := by
  obtain ⟨m', n', ⟨hn, h1⟩, h2⟩ := lm_lp (sc := sc) (d := d) (b := s) (hs := lm_m218.2.2.2.2.1) (code := lm_reg lm_m218.2.2.2.2.2) (x := x) (fr := fun r => (37, [(0, .ref 44), (1, .ref p), (2, .int z2), (3, .int (Int32.ofNat s)), (4, .int (Int32.ofNat c)), (5, .int (Int32.ofInt Z)), (6, .int (Int32.ofNat (c + r)))], [])) (I := fun r m' n' => n' = n ∧ lm_PA m0 m' p (lm_HL L G s c r)) (fun r hr m1 n1 ⟨en, h1⟩ => by
    have g1 : m1 p (c + r) = Int32.ofInt (G (c + r)) := by
      rw [h1.2 _ (by omega)]
      unfold lm_HL
      rw [if_neg (by omega)]
    have g2 : m1 p (c + r + s) = Int32.ofInt (G (c + r + s)) := by
      rw [h1.2 _ (by omega)]
      unfold lm_HL
      rw [if_neg (by omega)]
    have hm := lm_mulb hZ (hb (c + r + s) (by omega))
    refine ⟨?m', ?n', ?_, fun R K => lm_e218_37 ?run⟩
    case run =>
      unfold lm_q218_37
      simp only [lm_oo]
      refine lm_geF (by omega) (by omega) (by omega) ?_
      repeat (first
    | ((with_reducible apply lm_sI); exact rfl)
    | ((with_reducible apply lm_sR); exact rfl)
    | ((with_reducible apply lm_sS); exact rfl; exact rfl)
    | ((with_reducible apply lm_sL); exact rfl)
    | ((with_reducible apply lm_sP); exact rfl; exact rfl)
    | ((with_reducible apply lm_sPL); exact rfl; exact rfl)
    | ((with_reducible apply lm_sAA); exact rfl; exact rfl)
    | ((with_reducible apply lm_sA); (first | exact rfl | assumption); omega)
    | ((with_reducible apply lm_sJ); (first | exact rfl | assumption); omega)
    | ((with_reducible apply lm_sB); (first | exact rfl | assumption); omega)
    | ((with_reducible apply lm_wA); (first | exact rfl | assumption); omega)
    | ((with_reducible apply lm_wJ); (first | exact rfl | assumption); omega)
    | ((with_reducible apply lm_wB); (first | exact rfl | assumption); omega)
    | ((with_reducible apply lm_sAl); (first | exact rfl | assumption); omega)
    | ((with_reducible apply lm_iW); decide))
      rw [lm_K1, lm_oo]
      exact K
    · refine ⟨en, h1.st hr (by omega) (fun q hq => by rw [lm_u_row hq, lm_u_row hq]) ?_ ?_ (fun j j1 j2 => by rw [lm_u_ne (by omega), lm_u_ne (by omega)])⟩
      · rw [lm_u_eq, lm_u_ne (by omega), g1, g2, lm_iM, lm_iR (by omega) (by omega) (by decide) (by decide), lm_iA, (hL r hr).1]
      · rw [lm_u_ne (by omega), lm_u_eq, g1, g2, lm_iM, lm_iR (by omega) (by omega) (by decide) (by decide), lm_iS, (hL r hr).2]) s 0 (by omega) m n ⟨rfl, h⟩
  subst hn
  exact ⟨m', h1, h2⟩
/-- one layer -/
theorem lm_l218l {N s : Nat} (hp : lm_ar p = some (0, 256)) (hp45 : p ≠ 45) (hz : ∀ k, k < 128 → m0 45 k = Int32.ofInt (lm_zk k)) (hN : N * (2 * s) = 256) (hs : 2 ≤ s) (hN2 : N ≤ 64) (hb : lm_bnd 26632 G) (h : lm_PA m0 m p G) : ∃ m', lm_PA m0 m' p (lm_LF 3329 lm_zk N s G) ∧ ∀ R, lm_rn sc d lm_m218.2.2.2.2.1 (lm_reg lm_m218.2.2.2.2.2) (14, [(0, .ref 44), (1, .ref p), (2, .int (Int32.ofNat (N + N))), (3, .int (Int32.ofNat s)), (4, .int (Int32.ofNat (N * (2 * s))))], []) (lm_w m' n x) = some R → lm_rn sc d lm_m218.2.2.2.2.1 (lm_reg lm_m218.2.2.2.2.2) (14, [(0, .ref 44), (1, .ref p), (2, .int (Int32.ofNat (N + 0))), (3, .int (Int32.ofNat s)), (4, .int (Int32.ofNat (0 * (2 * s))))], []) (lm_w m n x) = some R := by
  obtain ⟨m', n', ⟨hn, h1⟩, h2⟩ := lm_lp (sc := sc) (d := d) (b := N) (hs := lm_m218.2.2.2.2.1) (code := lm_reg lm_m218.2.2.2.2.2) (x := x) (fr := fun b => (14, [(0, .ref 44), (1, .ref p), (2, .int (Int32.ofNat (N + b))), (3, .int (Int32.ofNat s)), (4, .int (Int32.ofNat (b * (2 * s))))], [])) (I := fun b m' n' => n' = n ∧ lm_PA m0 m' p (lm_HL (lm_LF 3329 lm_zk N s G) G s (b * (2 * s)) 0)) (fun b hb1 m1 n1 ⟨en, h1⟩ => by
    have hc : b * (2 * s) + 2 * s ≤ 256 := by
      rw [← hN, ← Nat.succ_mul]
      exact Nat.mul_le_mul_right _ hb1
    obtain ⟨m2, h2, k2⟩ := lm_l218b (sc := sc) (d := d) (n := n) (x := x) (z2 := Int32.ofNat (N + b + 1)) (Z := lm_zk (N + b)) hp (lm_zk_b _) hb hc (fun r hr => ⟨lm_LF_lo hr, lm_LF_hi hr⟩) h1
    refine ⟨m2, n, ⟨rfl, ?_⟩, fun R K => lm_e218_14 ?_⟩
    · rw [Nat.succ_mul, ← lm_HL_nx]
      exact h2
    · subst en
      unfold lm_q218_14
      rw [lm_K256]
      refine lm_geF (by omega) (by omega) (by omega) ?_
      repeat (first
    | ((with_reducible apply lm_sI); exact rfl)
    | ((with_reducible apply lm_sR); exact rfl)
    | ((with_reducible apply lm_sS); exact rfl; exact rfl)
    | ((with_reducible apply lm_sL); exact rfl)
    | ((with_reducible apply lm_sP); exact rfl; exact rfl)
    | ((with_reducible apply lm_sPL); exact rfl; exact rfl)
    | ((with_reducible apply lm_sAA); exact rfl; exact rfl)
    | ((with_reducible apply lm_sA); (first | exact rfl | assumption); omega)
    | ((with_reducible apply lm_sJ); (first | exact rfl | assumption); omega)
    | ((with_reducible apply lm_sB); (first | exact rfl | assumption); omega)
    | ((with_reducible apply lm_wA); (first | exact rfl | assumption); omega)
    | ((with_reducible apply lm_wJ); (first | exact rfl | assumption); omega)
    | ((with_reducible apply lm_wB); (first | exact rfl | assumption); omega)
    | ((with_reducible apply lm_sAl); (first | exact rfl | assumption); omega)
    | ((with_reducible apply lm_iW); decide))
      rw [h1.1 45 (fun e => hp45 e.symm), hz _ (by omega), lm_K1, lm_oo]
      refine k2 R (lm_e218_37 ?_)
      unfold lm_q218_37
      simp only [lm_oo, lm_K2, lm_om]
      refine lm_geT (by omega) (by omega) (by omega) ?_
      rw [Nat.succ_mul] at K
      exact K) N 0 (by omega) m n ⟨rfl, by rw [Nat.zero_mul, lm_HL_0]; exact h⟩
  subst hn
  refine ⟨m', h1.hl fun j hj => ?_, h2⟩
  unfold lm_HL
  rw [if_pos (by omega)]
/-- toPairs -/
theorem lm_u218 (hp : lm_ar p = some (0, 256)) (hp45 : p ≠ 45) (hz : ∀ k, k < 128 → m 45 k = Int32.ofInt (lm_zk k)) (hb : lm_bnd 3329 G) (hG : ∀ j, j < 256 → m p j = Int32.ofInt (G j)) : ∃ m', lm_cal sc (d + 3) 218 [.ref 44, .ref p] (lm_w m n x) = some (.ok none, lm_w m' n x) ∧ lm_PA m m' p (fun j => lm_nt G j % 3329) := by
  obtain ⟨m', n', ⟨hn, Gt, h1, f1, b1⟩, h2⟩ := lm_lp (sc := sc) (d := d + 2) (b := 7) (hs := lm_m218.2.2.2.2.1) (code := lm_reg lm_m218.2.2.2.2.2) (x := x) (fr := fun t => (6, [(0, .ref 44), (1, .ref p), (2, .int (Int32.ofNat (2 ^ t))), (3, .int (Int32.ofNat (128 / 2 ^ t)))], [])) (I := fun t m' n' => n' = n ∧ ∃ Gt, lm_PA m m' p Gt ∧ lm_NF 3329 lm_zk G (2 ^ t) (256 / 2 ^ t) Gt ∧ lm_bnd (3329 * (t + 1)) Gt) (fun t ht m1 n1 ⟨en, Gt, h1, f1, b1⟩ => by
    obtain ⟨a1, a2, a3, a4, a5, a6, a7, a8, a9⟩ := lm_lay_t t ht
    have hbb : lm_bnd 26632 Gt := fun j hj => by have := b1 j hj; omega
    obtain ⟨m2, h2, k2⟩ := lm_l218l (sc := sc) (d := d + 2) (n := n) (x := x) hp hp45 hz a1 a2 a6 hbb h1
    refine ⟨m2, n, ⟨rfl, _, h2, ?_, ?_⟩, fun R K => lm_e218_6 ?_⟩
    · rw [a4, a5]
      rw [a3] at f1
      exact lm_LF_NF f1 fun b hb => ln_cg.ofe (lm_zk_sq _ (by omega) (by omega))
    · have := lm_LF_bnd (z := lm_zk) (show (0 : Int) < 3329 by decide) a1 b1
      intro j hj
      have := this j hj
      omega
    · subst en
      unfold lm_q218_6
      rw [lm_K2]
      refine lm_ltF (by omega) (by omega) (by omega) ?_
      rw [lm_K0]
      rw [Nat.add_zero, Nat.zero_mul] at k2
      refine k2 R (lm_e218_14 ?_)
      unfold lm_q218_14
      rw [lm_K256]
      refine lm_geT (by omega) (by omega) (by omega) ?_
      rw [a9, ← Nat.two_mul, ← a5]
      exact K) 7 0 (by omega) m n ⟨rfl, G, ⟨fun _ _ => rfl, hG⟩, lm_NF_0, by exact hb⟩
  subst hn
  obtain ⟨m3, c3, h3⟩ := lm_u221 (sc := sc) (d := d) (n := n') (x := x) hp h1 (fun j hj => by have := b1 j hj; omega)
  refine ⟨m3, ?_, h3.hl fun j hj => ?_⟩
  · refine lm_cal_of (Y := lm_m218) rfl rfl (lm_e218_0 ?_)
    unfold lm_q218_0
    rw [lm_K1, lm_K128]
    refine h2 _ (lm_e218_6 ?_)
    unfold lm_q218_6
    rw [lm_K2]
    refine lm_ltT (by decide) (by decide) (by decide) ?_
    exact lm_cV c3 rfl
  · have := f1 (j / 2) (j % 2) (by omega) (by omega)
    rw [show j / 2 * (256 / 2 ^ 7) + j % 2 = j by omega] at this
    exact this.eq
end LMKN
