/-! ===== the class's way back, products ===== -/
def ln_dk (i : Nat) : Nat := 17 ^ (256 - (2 * lm_br 7 i + 1)) % 3329
def lm_zkN (k : Nat) : Nat := 17 ^ lm_br 7 k % 3329
set_option maxRecDepth 100000 in
theorem lm_dk_ok : ∀ t, t < 7 → ∀ b, b < 64 / 2 ^ t → ∀ c, c < 2 ^ t → ln_dk (2 * b * 2 ^ t + c) ^ 2 ^ t % 3329 = 3329 - lm_zkN (2 * (64 / 2 ^ t) - 1 - b) ∧ ln_dk ((2 * b + 1) * 2 ^ t + c) ^ 2 ^ t % 3329 = lm_zkN (2 * (64 / 2 ^ t) - 1 - b) := by decide +kernel
def lm_dI (i : Nat) : Int := (ln_dk i : Int)
theorem lm_dI_ok {t b c : Nat} (ht : t < 7) (hb : b < 64 / 2 ^ t) (hc : c < 2 ^ t) : ln_cg 3329 (lm_dI (2 * b * 2 ^ t + c) ^ 2 ^ t) (-lm_zk (2 * (64 / 2 ^ t) - 1 - b)) ∧ ln_cg 3329 (lm_dI ((2 * b + 1) * 2 ^ t + c) ^ 2 ^ t) (lm_zk (2 * (64 / 2 ^ t) - 1 - b)) := by
  obtain ⟨h1, h2⟩ := lm_dk_ok t ht b hb c hc
  have e : lm_zk (2 * (64 / 2 ^ t) - 1 - b) = (lm_zkN (2 * (64 / 2 ^ t) - 1 - b) : Int) := rfl
  have l : lm_zkN (2 * (64 / 2 ^ t) - 1 - b) < 3329 := Nat.mod_lt _ (by decide)
  unfold lm_dI
  rw [e, ← Int.natCast_pow, ← Int.natCast_pow]
  generalize ln_dk (2 * b * 2 ^ t + c) ^ 2 ^ t = A at *
  generalize ln_dk ((2 * b + 1) * 2 ^ t + c) ^ 2 ^ t = A2 at *
  generalize lm_zkN (2 * (64 / 2 ^ t) - 1 - b) = z at *
  refine ⟨ln_cg.ofe ?_, ln_cg.ofe ?_⟩
  · omega
  · omega
/-- the way back of Kem -/
def lm_un (A : Nat → Int) (j : Nat) : Int := ln_sg 128 (fun c => A (c * 2 + j % 2) * lm_dI c ^ (j / 2)) * 3303
theorem lm_lay_i : ∀ t, t < 7 → 64 / 2 ^ t * (2 * (2 * 2 ^ t)) = 256 ∧ 2 ^ (t + 1) = 2 * 2 ^ t ∧ 128 / 2 ^ t = 2 * (64 / 2 ^ t) ∧ 128 / 2 ^ (t + 1) = 64 / 2 ^ t ∧ 64 / 2 ^ t ≤ 64 ∧ 1 ≤ 64 / 2 ^ t ∧ 2 ^ t ≤ 64 ∧ 1 ≤ 2 ^ t ∧ 2 * (64 / 2 ^ t) - 1 - 64 / 2 ^ t = 128 / 2 ^ (t + 1) - 1 ∧ (Int32.ofNat (2 * 2 ^ t)) <<< ((Int32.ofInt 1) &&& 31) = Int32.ofNat (2 * 2 ^ (t + 1)) := by decide
section LMKI
variable {sc : lm_H} {d : Nat} {m m0 : lm_MI} {n : lm_ML} {x : lm_H × Nat × Nat} {p : Nat} {G : Nat → Int}
theorem lm_l290b {c s : Nat} {z2 : Int32} {Z : Int} {L : Nat → Int} (hp : lm_ar p = some (0, 256)) (hZ : -3328 ≤ Z ∧ Z ≤ 3328) (hb : lm_bnd 213056 G) (hs : c + 2 * s ≤ 256) (hL : ∀ r, r < s → L (c + r) = G (c + r) + G (c + r + s) ∧ L (c + r + s) = (Z * (G (c + r + s) - G (c + r))).tmod 3329) (h : lm_PA m0 m p (lm_HL L G s c 0)) : ∃ m', lm_PA m0 m' p (lm_HL L G s c s) ∧ ∀ R, lm_rn sc d lm_m290.2.2.2.2.1 (lm_reg lm_m290.2.2.2.2.2) (38, [(0, .ref 44), (1, .ref p), (2, .int z2), (3, .int (Int32.ofNat s)), (4, .int (Int32.ofNat c)), (5, .int (Int32.ofInt Z)), (6, .int (Int32.ofNat (c + s)))], []) (lm_w m' n x) = some R → lm_rn sc d lm_m290.2.2.2.2.1 (lm_reg lm_m290.2.2.2.2.2) (38, [(0, .ref 44), (1, .ref p), (2, .int z2), (3, .int (Int32.ofNat s)), (4, .int (Int32.ofNat c)), (5, .int (Int32.ofInt Z)), (6, .int (Int32.ofNat (c + 0)))], []) (lm_w m n x) = some R := by
  obtain ⟨m', n', ⟨hn, h1⟩, h2⟩ := lm_lp (sc := sc) (d := d) (b := s) (hs := lm_m290.2.2.2.2.1) (code := lm_reg lm_m290.2.2.2.2.2) (x := x) (fr := fun r => (38, [(0, .ref 44), (1, .ref p), (2, .int z2), (3, .int (Int32.ofNat s)), (4, .int (Int32.ofNat c)), (5, .int (Int32.ofInt Z)), (6, .int (Int32.ofNat (c + r)))], [])) (I := fun r m' n' => n' = n ∧ lm_PA m0 m' p (lm_HL L G s c r)) (fun r hr m1 n1 ⟨en, h1⟩ => by
    have g1 : m1 p (c + r) = Int32.ofInt (G (c + r)) := by
      rw [h1.2 _ (by omega)]
      unfold lm_HL
      rw [if_neg (by omega)]
    have g2 : m1 p (c + r + s) = Int32.ofInt (G (c + r + s)) := by
      rw [h1.2 _ (by omega)]
      unfold lm_HL
      rw [if_neg (by omega)]
    have hm := lm_mulb (B := 426112) (b := G (c + r + s) - G (c + r)) hZ (by have := hb (c + r + s) (by omega); have := hb (c + r) (by omega); omega)
    refine ⟨?m', ?n', ?_, fun R K => lm_e290_38 ?run⟩
    case run =>
      unfold lm_q290_38
      simp only [lm_oo]
      refine lm_geF (by omega) (by omega) (by omega) ?_
      repeat (first
    | ((with_reducible apply lm_sI); exact rfl)
    | ((with_reducible apply lm_sR); exact rfl)
    | ((with_reducible apply lm_sS); exact rfl; exact rfl)
    | ((with_reducible apply lm_sL); exact rfl)
    | ((with_reducible apply lm_sP); exact rfl; exact rfl)
    | ((with_reducible apply lm_sPL); exact rfl; exact rfl)
    | ((with_reducible apply lm_sAA); exact rfl; exact rfl)
    | ((with_reducible apply lm_sA); (first | exact rfl | assumption); omega)
    | ((with_reducible apply lm_sJ); (first | exact rfl | assumption); omega)
    | ((with_reducible apply lm_sB); (first | exact rfl | assumption); omega)
    | ((with_reducible apply lm_wA); (first | exact rfl | assumption); omega)
    | ((with_reducible apply lm_wJ); (first | exact rfl | assumption); omega)
    | ((with_reducible apply lm_wB); (first | exact rfl | assumption); omega)
    | ((with_reducible apply lm_sAl); (first | exact rfl | assumption); omega)
    | ((with_reducible apply lm_iW); decide))
      rw [lm_K1, lm_oo]
      exact K
    · refine ⟨en, h1.st hr (by omega) (fun q hq => by rw [lm_u_row hq, lm_u_row hq]) ?_ ?_ (fun j j1 j2 => by rw [lm_u_ne (by omega), lm_u_ne (by omega)])⟩
      · rw [lm_u_ne (by omega), lm_u_eq, g1, g2, lm_iA, (hL r hr).1]
      · rw [lm_u_eq, lm_u_ne (by omega), g1, g2, lm_iS, lm_iM, lm_iR (by omega) (by omega) (by decide) (by decide), (hL r hr).2]) s 0 (by omega) m n ⟨rfl, h⟩
  subst hn
  exact ⟨m', h1, h2⟩
theorem lm_l290l {N s : Nat} (hp : lm_ar p = some (0, 256)) (hp45 : p ≠ 45) (hz : ∀ k, k < 128 → m0 45 k = Int32.ofInt (lm_zk k)) (hN : N * (2 * s) = 256) (hs : 2 ≤ s) (hN2 : N ≤ 64) (hN1 : 1 ≤ N) (hb : lm_bnd 213056 G) (h : lm_PA m0 m p G) : ∃ m', lm_PA m0 m' p (lm_LI 3329 lm_zk N s G) ∧ ∀ R, lm_rn sc d lm_m290.2.2.2.2.1 (lm_reg lm_m290.2.2.2.2.2) (15, [(0, .ref 44), (1, .ref p), (2, .int (Int32.ofInt ((2 * N - 1 : Nat) - (N : Nat) : Int))), (3, .int (Int32.ofNat s)), (4, .int (Int32.ofNat (N * (2 * s))))], []) (lm_w m' n x) = some R → lm_rn sc d lm_m290.2.2.2.2.1 (lm_reg lm_m290.2.2.2.2.2) (15, [(0, .ref 44), (1, .ref p), (2, .int (Int32.ofInt ((2 * N - 1 : Nat) - (0 : Nat) : Int))), (3, .int (Int32.ofNat s)), (4, .int (Int32.ofNat (0 * (2 * s))))], []) (lm_w m n x) = some R := by
  obtain ⟨m', n', ⟨hn, h1⟩, h2⟩ := lm_lp (sc := sc) (d := d) (b := N) (hs := lm_m290.2.2.2.2.1) (code := lm_reg lm_m290.2.2.2.2.2) (x := x) (fr := fun b => (15, [(0, .ref 44), (1, .ref p), (2, .int (Int32.ofInt ((2 * N - 1 : Nat) - (b : Nat) : Int))), (3, .int (Int32.ofNat s)), (4, .int (Int32.ofNat (b * (2 * s))))], [])) (I := fun b m' n' => n' = n ∧ lm_PA m0 m' p (lm_HL (lm_LI 3329 lm_zk N s G) G s (b * (2 * s)) 0)) (fun b hb1 m1 n1 ⟨en, h1⟩ => by
    have hc : b * (2 * s) + 2 * s ≤ 256 := by
      rw [← hN, ← Nat.succ_mul]
      exact Nat.mul_le_mul_right _ hb1
    obtain ⟨m2, h2, k2⟩ := lm_l290b (sc := sc) (d := d) (n := n) (x := x) (z2 := Int32.ofInt ((2 * N - 1 : Nat) - ((b + 1 : Nat) : Nat) : Int)) (Z := lm_zk (2 * N - 1 - b)) hp (lm_zk_b _) hb hc (fun r hr => ⟨lm_LI_lo hr, lm_LI_hi hr⟩) h1
    refine ⟨m2, n, ⟨rfl, ?_⟩, fun R K => lm_e290_15 ?_⟩
    · rw [Nat.succ_mul, ← lm_HL_nx]
      exact h2
    · subst en
      unfold lm_q290_15
      rw [lm_K256]
      refine lm_geF (by omega) (by omega) (by omega) ?_
      rw [show Int32.ofInt ((2 * N - 1 : Nat) - (b : Nat) : Int) + Int32.ofInt (-1) = Int32.ofInt ((2 * N - 1 : Nat) - ((b + 1 : Nat) : Nat) : Int) by rw [lm_iA]; congr 1; omega]
      rw [show Int32.ofInt ((2 * N - 1 : Nat) - (b : Nat) : Int) = Int32.ofNat (2 * N - 1 - b) by rw [lm_oN]; congr 1; omega]
      repeat (first
    | ((with_reducible apply lm_sI); exact rfl)
    | ((with_reducible apply lm_sR); exact rfl)
    | ((with_reducible apply lm_sS); exact rfl; exact rfl)
    | ((with_reducible apply lm_sL); exact rfl)
    | ((with_reducible apply lm_sP); exact rfl; exact rfl)
    | ((with_reducible apply lm_sPL); exact rfl; exact rfl)
    | ((with_reducible apply lm_sAA); exact rfl; exact rfl)
    | ((with_reducible apply lm_sA); (first | exact rfl | assumption); omega)
    | ((with_reducible apply lm_sJ); (first | exact rfl | assumption); omega)
    | ((with_reducible apply lm_sB); (first | exact rfl | assumption); omega)
    | ((with_reducible apply lm_wA); (first | exact rfl | assumption); omega)
    | ((with_reducible apply lm_wJ); (first | exact rfl | assumption); omega)
    | ((with_reducible apply lm_wB); (first | exact rfl | assumption); omega)
    | ((with_reducible apply lm_sAl); (first | exact rfl | assumption); omega)
    | ((with_reducible apply lm_iW); decide))
      rw [h1.1 45 (fun e => hp45 e.symm), hz _ (by omega)]
      refine k2 R (lm_e290_38 ?_)
      unfold lm_q290_38
      simp only [lm_oo, lm_K2, lm_om]
      refine lm_geT (by omega) (by omega) (by omega) ?_
      rw [Nat.succ_mul b (2 * s)] at K
      exact K) N 0 (by omega) m n ⟨rfl, by rw [Nat.zero_mul, lm_HL_0]; exact h⟩
  subst hn
  refine ⟨m', h1.hl fun j hj => ?_, h2⟩
  unfold lm_HL
  rw [if_pos (by omega)]
/-- fromPairs -/
theorem lm_u290 (hp : lm_ar p = some (0, 256)) (hp45 : p ≠ 45) (hz : ∀ k, k < 128 → m 45 k = Int32.ofInt (lm_zk k)) (hb : lm_bnd 3329 G) (hG : ∀ j, j < 256 → m p j = Int32.ofInt (G j)) : ∃ m' U, lm_cal sc (d + 1) 290 [.ref 44, .ref p] (lm_w m n x) = some (.ok none, lm_w m' n x) ∧ lm_PA m m' p U ∧ ∀ j, j < 256 → ln_cg 3329 (U j) (lm_un G j) ∧ -3329 < U j ∧ U j < 3329 := by
  obtain ⟨m', n', ⟨hn, Gt, h1, f1, b1⟩, h2⟩ := lm_lp (sc := sc) (d := d) (b := 7) (hs := lm_m290.2.2.2.2.1) (code := lm_reg lm_m290.2.2.2.2.2) (x := x) (fr := fun t => (5, [(0, .ref 44), (1, .ref p), (2, .int (Int32.ofNat (128 / 2 ^ t - 1))), (3, .int (Int32.ofNat (2 * 2 ^ t)))], [])) (I := fun t m' n' => n' = n ∧ ∃ Gt, lm_PA m m' p Gt ∧ lm_NI 3329 lm_dI G 2 (2 ^ t) (128 / 2 ^ t) Gt ∧ lm_bnd (3329 * (2 ^ t : Nat)) Gt) (fun t ht m1 n1 ⟨en, Gt, h1, f1, b1⟩ => by
    obtain ⟨a1, a2, a3, a4, a5, a6, a7, a8, a9, a10⟩ := lm_lay_i t ht
    have hbb : lm_bnd 213056 Gt := fun j hj => by have := b1 j hj; omega
    obtain ⟨m2, h2, k2⟩ := lm_l290l (sc := sc) (d := d) (n := n) (x := x) hp hp45 hz a1 (by omega) a5 a6 hbb h1
    refine ⟨m2, n, ⟨rfl, _, h2, ?_, ?_⟩, fun R K => lm_e290_5 ?_⟩
    · rw [a4, a2]
      rw [a3] at f1
      exact lm_LI_NI f1 (Nat.mul_comm _ _) fun b c hb hc => lm_dI_ok ht hb hc
    · have := lm_LI_bnd (z := lm_zk) (q := 3329) (by decide) (by omega) a1 b1
      intro j hj
      have := this j hj
      rw [a2]
      omega
    · subst en
      unfold lm_q290_5
      rw [lm_K128]
      refine lm_gtF (by omega) (by omega) (by omega) ?_
      rw [lm_K0]
      rw [Nat.zero_mul, show ((2 * (64 / 2 ^ t) - 1 : Nat) : Int) - (0 : Nat) = ((128 / 2 ^ t - 1 : Nat) : Int) by omega, ← lm_oN] at k2
      refine k2 R (lm_e290_15 ?_)
      unfold lm_q290_15
      rw [lm_K256]
      refine lm_geT (by omega) (by omega) (by omega) ?_
      rw [a10, show ((2 * (64 / 2 ^ t) - 1 : Nat) : Int) - (64 / 2 ^ t : Nat) = ((128 / 2 ^ (t + 1) - 1 : Nat) : Int) by omega, ← lm_oN]
      exact K) 7 0 (by omega) m n ⟨rfl, G, ⟨fun _ _ => rfl, hG⟩, lm_NI_0, by intro j hj; have := hb j hj; omega⟩
  subst hn
  have hb2 : lm_bnd 426112 Gt := fun j hj => by have := b1 j hj; omega
  obtain ⟨m3, n3, ⟨hn, h3⟩, k3⟩ := lm_lp (sc := sc) (d := d) (b := 256) (hs := lm_m290.2.2.2.2.1) (code := lm_reg lm_m290.2.2.2.2.2) (x := x) (fr := fun i => (114, [(1, .ref p), (3, .int (Int32.ofNat i))], [])) (I := fun i m3 n3 => n3 = n' ∧ lm_PA m m3 p (fun j => if j < i then (Gt j * 3303).tmod 3329 else Gt j)) (fun i hi m1 n1 ⟨en, h1⟩ => by
    have e := h1.2 i hi
    dsimp only at e
    rw [if_neg (by omega)] at e
    have hm := hb2 i hi
    refine ⟨?m', ?n', ?_, fun R K => lm_e290_114 ?run⟩
    case run =>
      unfold lm_q290_114
      rw [lm_K256]
      refine lm_geF (by omega) (by omega) (by omega) ?_
      repeat (first
    | ((with_reducible apply lm_sI); exact rfl)
    | ((with_reducible apply lm_sR); exact rfl)
    | ((with_reducible apply lm_sS); exact rfl; exact rfl)
    | ((with_reducible apply lm_sL); exact rfl)
    | ((with_reducible apply lm_sP); exact rfl; exact rfl)
    | ((with_reducible apply lm_sPL); exact rfl; exact rfl)
    | ((with_reducible apply lm_sAA); exact rfl; exact rfl)
    | ((with_reducible apply lm_sA); (first | exact rfl | assumption); omega)
    | ((with_reducible apply lm_sJ); (first | exact rfl | assumption); omega)
    | ((with_reducible apply lm_sB); (first | exact rfl | assumption); omega)
    | ((with_reducible apply lm_wA); (first | exact rfl | assumption); omega)
    | ((with_reducible apply lm_wJ); (first | exact rfl | assumption); omega)
    | ((with_reducible apply lm_wB); (first | exact rfl | assumption); omega)
    | ((with_reducible apply lm_sAl); (first | exact rfl | assumption); omega)
    | ((with_reducible apply lm_iW); decide))
      rw [lm_K1, lm_oo]
      exact K
    · refine ⟨en, fun q hq => (lm_u_row hq).trans (h1.1 q hq), fun j hj => ?_⟩
      dsimp only
      by_cases c : j = i
      · subst c
        rw [lm_u_eq, if_pos (by omega), e, lm_iM, lm_iR (by omega) (by omega) (by decide) (by decide)]
      · rw [lm_u_ne (by omega), h1.2 j hj]
        dsimp only
        by_cases c2 : j < i
        · rw [if_pos c2, if_pos (by omega)]
        · rw [if_neg c2, if_neg (by omega)]) 256 0 (by omega) m' n' ⟨rfl, h1.hl fun j _ => by rw [if_neg (by omega)]⟩
  subst hn
  refine ⟨m3, fun j => (Gt j * 3303).tmod 3329, ?_, h3.hl fun j hj => by rw [if_pos hj], fun j hj => ⟨?_, lm_tmb (by decide)⟩⟩
  · refine lm_cal_of (Y := lm_m290) rfl rfl (lm_e290_0 ?_)
    unfold lm_q290_0
    rw [lm_K127, lm_K2]
    refine h2 _ (lm_e290_5 ?_)
    unfold lm_q290_5
    rw [lm_K128]
    refine lm_gtT (by decide) (by decide) (by decide) ?_
    rw [lm_K0]
    refine k3 _ (lm_e290_114 ?_)
    unfold lm_q290_114
    rw [lm_K256]
    exact lm_geT (by omega) (by omega) (by omega) rfl
  · have := f1 0 (j / 2) (j % 2) (by decide) (by omega) (by omega)
    rw [show 0 * (2 ^ 7 * 2) + (j / 2 * 2 + j % 2) = j by omega] at this
    simp only [Nat.zero_mul, Nat.zero_add] at this
    exact ln_cg.tm.tr (this.mu ln_cg.rf)
/-- addProduct -/
def lm_gk (i : Nat) : Int := ((17 ^ (2 * lm_br 7 i + 1) % 3329 : Nat) : Int)
def lm_ap (S F H : Nat → Int) (j : Nat) : Int := S j + (if j % 2 = 0 then F j * H j + (F (j + 1) * H (j + 1)).tmod 3329 * lm_gk (j / 2) else F (j - 1) * H j + F j * H (j - 1))
theorem lm_sh1 : ∀ i, i < 128 → (Int32.ofNat (2 * i)) >>> ((Int32.ofInt 1) &&& 31) = Int32.ofNat i := by decide +kernel
theorem lm_u220 {f g : Nat} {S F H : Nat → Int} (hf : lm_ar f = some (0, 256)) (hg : lm_ar g = some (0, 256)) (hf9 : f ≠ 69) (hg9 : g ≠ 69) (hz : ∀ k, k < 128 → m 46 k = Int32.ofInt (lm_gk k)) (hS : lm_PA m0 m 69 S) (hF : ∀ j, j < 256 → m f j = Int32.ofInt (F j)) (hH : ∀ j, j < 256 → m g j = Int32.ofInt (H j)) (bF : lm_bnd 4096 F) (bH : lm_bnd 4096 H) : ∃ m', lm_cal sc (d + 1) 220 [.ref 44, .ref f, .ref g] (lm_w m n x) = some (.ok none, lm_w m' n x) ∧ lm_PA m0 m' 69 (lm_ap S F H) := by
  have r0 : ∀ q, q ≠ 69 → m q = m0 q := hS.1
  obtain ⟨m', n', ⟨hn, h1⟩, h2⟩ := lm_lp (sc := sc) (d := d) (b := 128) (hs := lm_m220.2.2.2.2.1) (code := lm_reg lm_m220.2.2.2.2.2) (x := x) (fr := fun i => (2, [(0, .ref 44), (1, .ref f), (2, .ref g), (3, .int (Int32.ofNat (2 * i)))], [])) (I := fun i m' n' => n' = n ∧ lm_PA m0 m' 69 (fun j => if j < 2 * i then lm_ap S F H j else S j)) (fun i hi m1 n1 ⟨en, h1⟩ => by
    have s0 := h1.2 (2 * i) (by omega)
    have s1 := h1.2 (2 * i + 1) (by omega)
    dsimp only at s0 s1
    rw [if_neg (by omega)] at s0 s1
    have f0 : m1 f (2 * i) = Int32.ofInt (F (2 * i)) := by rw [h1.1 f hf9, ← r0 f hf9]; exact hF _ (by omega)
    have f1 : m1 f (2 * i + 1) = Int32.ofInt (F (2 * i + 1)) := by rw [h1.1 f hf9, ← r0 f hf9]; exact hF _ (by omega)
    have g0 : m1 g (2 * i) = Int32.ofInt (H (2 * i)) := by rw [h1.1 g hg9, ← r0 g hg9]; exact hH _ (by omega)
    have g1 : m1 g (2 * i + 1) = Int32.ofInt (H (2 * i + 1)) := by rw [h1.1 g hg9, ← r0 g hg9]; exact hH _ (by omega)
    have z : m1 46 i = Int32.ofInt (lm_gk i) := by rw [h1.1 46 (by decide), ← r0 46 (by decide)]; exact hz _ hi
    have hm := lm_mulb (bF (2 * i + 1) (by omega)) (bH (2 * i + 1) (by omega))
    refine ⟨?m', ?n', ?_, fun R K => lm_e220_2 ?run⟩
    case run =>
      unfold lm_q220_2
      rw [lm_K256, lm_K1, lm_K2]
      simp only [lm_oo]
      refine lm_geF (by omega) (by omega) (by omega) ?_
      rw [← lm_K1, lm_sh1 i hi]
      repeat (first
    | ((with_reducible apply lm_sI); exact rfl)
    | ((with_reducible apply lm_sR); exact rfl)
    | ((with_reducible apply lm_sS); exact rfl; exact rfl)
    | ((with_reducible apply lm_sL); exact rfl)
    | ((with_reducible apply lm_sP); exact rfl; exact rfl)
    | ((with_reducible apply lm_sPL); exact rfl; exact rfl)
    | ((with_reducible apply lm_sAA); exact rfl; exact rfl)
    | ((with_reducible apply lm_sA); (first | exact rfl | assumption); omega)
    | ((with_reducible apply lm_sJ); (first | exact rfl | assumption); omega)
    | ((with_reducible apply lm_sB); (first | exact rfl | assumption); omega)
    | ((with_reducible apply lm_wA); (first | exact rfl | assumption); omega)
    | ((with_reducible apply lm_wJ); (first | exact rfl | assumption); omega)
    | ((with_reducible apply lm_wB); (first | exact rfl | assumption); omega)
    | ((with_reducible apply lm_sAl); (first | exact rfl | assumption); omega)
    | ((with_reducible apply lm_iW); decide))
      exact K
    · refine ⟨en, fun q hq => by rw [lm_u_row hq, lm_u_row hq]; exact h1.1 q hq, fun j hj => ?_⟩
      dsimp only
      by_cases c : j = 2 * i
      · subst c
        rw [lm_u_ne (by omega), lm_u_eq, if_pos (by omega), s0, f0, g0, f1, g1, z, lm_iM (F (2 * i + 1)), lm_iR (by omega) (by omega) (by decide) (by decide), lm_iM, lm_iM, lm_iA, lm_iA]
        unfold lm_ap
        rw [if_pos (by omega), show 2 * i / 2 = i by omega]
      · by_cases c1 : j = 2 * i + 1
        · subst c1
          rw [lm_u_eq, lm_u_ne (by omega), lm_u_row hf9, lm_u_row hg9, s1, f0, g0, f1, g1, lm_iM, lm_iM, lm_iA, lm_iA, if_pos (by omega)]
          unfold lm_ap
          rw [if_neg (by omega), show 2 * i + 1 - 1 = 2 * i by omega]
        · rw [lm_u_ne (by omega), lm_u_ne (by omega), h1.2 j hj]
          dsimp only
          by_cases c2 : j < 2 * i
          · rw [if_pos c2, if_pos (by omega)]
          · rw [if_neg c2, if_neg (by omega)]) 128 0 (by omega) m n ⟨rfl, hS.hl fun j _ => by rw [if_neg (by omega)]⟩
  subst hn
  refine ⟨m', ?_, h1.hl fun j hj => by rw [if_pos (by omega)]⟩
  refine lm_cal_of (Y := lm_m220) rfl rfl (lm_e220_0 ?_)
  unfold lm_q220_0
  rw [lm_K0]
  refine h2 _ (lm_e220_2 ?_)
  unfold lm_q220_2
  rw [lm_K256]
  exact lm_geT (by omega) (by omega) (by omega) rfl
end LMKI
