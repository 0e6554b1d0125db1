/-! ===== the class's way back of Dsa, whole ===== -/
theorem lm_cge {a : Int64} : (0 : Int32) ≤ lg_cmp a (Int64.ofNat 0) ↔ (0 : Int64) ≤ a := by
  have e0 : (Int64.ofNat 0) = (0 : Int64) := rfl
  have z : (0 : Int64).toInt = 0 := rfl
  rw [e0]
  unfold lg_cmp
  by_cases c : a > 0
  · rw [if_pos c]
    exact ⟨fun _ => by rw [Int64.le_iff_toInt_le]; have := Int64.lt_iff_toInt_lt.mp c; omega, fun _ => by decide⟩
  · rw [if_neg c]
    by_cases e : a = 0
    · rw [if_pos e]
      exact ⟨fun _ => by rw [e]; exact Int64.le_refl 0, fun _ => by decide⟩
    · rw [if_neg e]
      refine ⟨fun g => absurd g (by decide), fun g => ?_⟩
      exfalso
      have h1 : ¬ (0 : Int64).toInt < a.toInt := fun h => c (Int64.lt_iff_toInt_lt.mpr h)
      have h2 := Int64.le_iff_toInt_le.mp g
      exact e (Int64.toInt_inj.mp (by omega))
section LMDJ
variable {sc : lm_H} {d : Nat} {m m0 : lm_MI} {n : lm_ML} {x : lm_H × Nat × Nat} {p : Nat} {G : Nat → Int} {σ : lm_S} {a q : Int}
theorem lm_u294 (h1 : -9223372036854775808 < a) (h2 : a < 9223372036854775808) (h3 : 0 < q) (h4 : q < 2147483648) : lm_cal sc (d + 1) 294 [.long (Int64.ofInt a), .long (Int64.ofInt q)] σ = some (.ok (some (.long (Int64.ofInt (a % q)))), σ) := by
  refine lm_cal_of (Y := lm_m294) rfl rfl (lm_e294_0 ?_)
  unfold lm_q294_0
  have tq := lm_LT (a := q) (by omega) (by omega)
  have ta := lm_LT (a := a) (by omega) h2
  have hb := lm_tmb (a := a) h3
  refine lm_iW ?_ ?_
  · intro e
    have := congrArg Int64.toInt e
    rw [tq] at this
    have : (0 : Int64).toInt = 0 := rfl
    omega
  rw [lm_LR h1 h2 (by omega) (by omega)]
  by_cases c : 0 ≤ a
  · refine lm_iT (lm_cge.mpr ((lm_xgeL (by rw [tq]; omega)).mpr (by rw [ta]; exact c))) ?_
    rw [Int.tmod_eq_emod_of_nonneg c]
    rfl
  · refine lm_iF (fun g => c (by rw [← ta]; exact (lm_xgeL (by rw [tq]; omega)).mp (lm_cge.mp g))) ?_
    have hc : ln_cg q (a.tmod q) a := ln_cg.tm
    by_cases c2 : a.tmod q = 0
    · refine lm_iT (show lg_cmp (Int64.ofInt (a.tmod q)) (Int64.ofNat 0) = 0 from lm_ce.mpr (by rw [c2]; rfl)) ?_
      rw [← hc.eq, c2, Int.zero_emod]
      rfl
    · refine lm_iF (show ¬ lg_cmp (Int64.ofInt (a.tmod q)) (Int64.ofNat 0) = 0 from fun g => c2 ?_) ?_
      · have := congrArg Int64.toInt (lm_ce.mp g)
        rw [lm_LT (by omega) (by omega)] at this
        exact this
      · rw [lm_LA]
        have hn : a.tmod q ≤ 0 := by
          have := Int.tmod_nonneg q (a := -a) (by omega)
          rw [Int.neg_tmod] at this
          omega
        have : a % q = a.tmod q + q := by
          rw [← hc.eq, ← Int.add_emod_right, Int.emod_eq_of_lt (by omega) (by omega)]
        rw [this]
        rfl
/-- fromPoints -/
theorem lm_u238 (hp : lm_ar p = some (0, 256)) (hp77 : p ≠ 77) (hz : ∀ k, k < 256 → m 77 k = Int32.ofInt (lm_zd k)) (hb : lm_bnd 8380416 G) (hG : ∀ j, j < 256 → m p j = Int32.ofInt (G j)) : ∃ m', lm_cal sc (d + 2) 238 [.ref 76, .ref p] (lm_w m n x) = some (.ok none, lm_w m' n x) ∧ lm_PA m m' p (fun j => lm_ut G j % 8380417) := by
  obtain ⟨m', n', ⟨hn, Gt, h1, f1, b1⟩, h2⟩ := lm_lp (sc := sc) (d := d + 1) (b := 8) (hs := lm_m238.2.2.2.2.1) (code := lm_reg lm_m238.2.2.2.2.2) (x := x) (fr := fun t => (6, [(0, .ref 76), (1, .ref p), (2, .int (Int32.ofNat (256 / 2 ^ t - 1))), (3, .int (Int32.ofNat (2 ^ t)))], [])) (I := fun t m' n' => n' = n ∧ ∃ Gt, lm_PA m m' p Gt ∧ lm_NI 8380417 lm_dD G 1 (2 ^ t) (256 / 2 ^ t) Gt ∧ lm_bnd (8380416 * (2 ^ t : Nat)) Gt) (fun t ht m1 n1 ⟨en, Gt, h1, f1, b1⟩ => by
    obtain ⟨a1, a2, a3, a4, a5, a6, a7, a8, a9, a10⟩ := lm_lay_e t ht
    have hbb : lm_bnd 1073741823 Gt := fun j hj => by have := b1 j hj; omega
    obtain ⟨m2, h2, k2⟩ := lm_l238l (sc := sc) (d := d + 1) (n := n) (x := x) hp hp77 hz a1 (by omega) a5 a6 hbb h1
    refine ⟨m2, n, ⟨rfl, _, h2, ?_, ?_⟩, fun R K => lm_e238_6 ?_⟩
    · rw [a4, a2]
      rw [a3] at f1
      rw [← Nat.mul_one (2 ^ t)] at f1
      have := lm_LI_NI (q := 8380417) (z := lm_zd) (s := 2 ^ t) (N := 128 / 2 ^ t) (M := 2 ^ t) (E := 1) (by rw [Nat.mul_one] at f1; exact f1) (Nat.mul_one _).symm fun b c hb hc => lm_dD_ok ht hb hc
      exact this
    · have := lm_LI_bnd (z := lm_zd) (q := 8380417) (by decide) (by omega) a1 b1
      intro j hj
      have := this j hj
      rw [a2]
      omega
    · subst en
      unfold lm_q238_6
      rw [lm_K128]
      refine lm_gtF (by omega) (by omega) (by omega) ?_
      rw [lm_K0]
      rw [Nat.zero_mul, show ((2 * (128 / 2 ^ t) - 1 : Nat) : Int) - (0 : Nat) = ((256 / 2 ^ t - 1 : Nat) : Int) by omega, ← lm_oN] at k2
      refine k2 R (lm_e238_16 ?_)
      unfold lm_q238_16
      rw [lm_K256]
      refine lm_geT (by omega) (by omega) (by omega) ?_
      rw [a10, show ((2 * (128 / 2 ^ t) - 1 : Nat) : Int) - (128 / 2 ^ t : Nat) = ((256 / 2 ^ (t + 1) - 1 : Nat) : Int) by omega, ← lm_oN]
      exact K) 8 0 (by omega) m n ⟨rfl, G, ⟨fun _ _ => rfl, hG⟩, lm_NI_0, by intro j hj; have := hb j hj; omega⟩
  subst hn
  have hb2 : lm_bnd 2147483647 Gt := fun j hj => by have := b1 j hj; omega
  obtain ⟨m3, n3, ⟨hn, h3⟩, k3⟩ := lm_lp (sc := sc) (d := d + 1) (b := 256) (hs := lm_m238.2.2.2.2.1) (code := lm_reg lm_m238.2.2.2.2.2) (x := x) (fr := fun i => (118, [(1, .ref p), (3, .int (Int32.ofNat i))], [])) (I := fun i m3 n3 => n3 = n' ∧ lm_PA m m3 p (fun j => if j < i then (Gt j * 8347681) % 8380417 else Gt j)) (fun i hi m1 n1 ⟨en, h1⟩ => by
    have e := h1.2 i hi
    dsimp only at e
    rw [if_neg (by omega)] at e
    have hm := hb2 i hi
    have c9 := lm_u294 (sc := sc) (d := d) (σ := lm_w m1 n1 x) (a := Gt i * 8347681) (q := 8380417) (by omega) (by omega) (by decide) (by decide)
    refine ⟨lm_u m1 p i (Int32.ofInt (Gt i * 8347681 % 8380417)), n1, ⟨en, fun q hq => (lm_u_row hq).trans (h1.1 q hq), fun j hj => ?_⟩, fun R K => lm_e238_118 ?_⟩
    · dsimp only
      by_cases c : j = i
      · subst c
        rw [lm_u_eq, if_pos (by omega)]
      · rw [lm_u_ne (by omega), h1.2 j hj]
        dsimp only
        by_cases c2 : j < i
        · rw [if_pos c2, if_pos (by omega)]
        · rw [if_neg c2, if_neg (by omega)]
    · unfold lm_q238_118
      rw [lm_K256]
      refine lm_geF (by omega) (by omega) (by omega) ?_
      repeat (first
    | ((with_reducible apply lm_sI); exact rfl)
    | ((with_reducible apply lm_sR); exact rfl)
    | ((with_reducible apply lm_sS); exact rfl; exact rfl)
    | ((with_reducible apply lm_sL); exact rfl)
    | ((with_reducible apply lm_sP); exact rfl; exact rfl)
    | ((with_reducible apply lm_sPL); exact rfl; exact rfl)
    | ((with_reducible apply lm_sAA); exact rfl; exact rfl)
    | ((with_reducible apply lm_sA); (first | exact rfl | assumption); omega)
    | ((with_reducible apply lm_sJ); (first | exact rfl | assumption); omega)
    | ((with_reducible apply lm_sB); (first | exact rfl | assumption); omega)
    | ((with_reducible apply lm_wA); (first | exact rfl | assumption); omega)
    | ((with_reducible apply lm_wJ); (first | exact rfl | assumption); omega)
    | ((with_reducible apply lm_wB); (first | exact rfl | assumption); omega)
    | ((with_reducible apply lm_sAl); (first | exact rfl | assumption); omega)
    | ((with_reducible apply lm_iW); decide))
      rw [e, lm_il (by omega) (by omega), lm_LN, lm_LN, lm_LM]
      refine lm_cLg c9 ?_
      rw [ln_li]
      repeat (first
    | ((with_reducible apply lm_sI); exact rfl)
    | ((with_reducible apply lm_sR); exact rfl)
    | ((with_reducible apply lm_sS); exact rfl; exact rfl)
    | ((with_reducible apply lm_sL); exact rfl)
    | ((with_reducible apply lm_sP); exact rfl; exact rfl)
    | ((with_reducible apply lm_sPL); exact rfl; exact rfl)
    | ((with_reducible apply lm_sAA); exact rfl; exact rfl)
    | ((with_reducible apply lm_sA); (first | exact rfl | assumption); omega)
    | ((with_reducible apply lm_sJ); (first | exact rfl | assumption); omega)
    | ((with_reducible apply lm_sB); (first | exact rfl | assumption); omega)
    | ((with_reducible apply lm_wA); (first | exact rfl | assumption); omega)
    | ((with_reducible apply lm_wJ); (first | exact rfl | assumption); omega)
    | ((with_reducible apply lm_wB); (first | exact rfl | assumption); omega)
    | ((with_reducible apply lm_sAl); (first | exact rfl | assumption); omega)
    | ((with_reducible apply lm_iW); decide))
      rw [lm_K1, lm_oo]
      exact K) 256 0 (by omega) m' n' ⟨rfl, h1.hl fun j _ => by rw [if_neg (by omega)]⟩
  subst hn
  refine ⟨m3, ?_, h3.hl fun j hj => ?_⟩
  · refine lm_cal_of (Y := lm_m238) rfl rfl (lm_e238_0 ?_)
    unfold lm_q238_0
    rw [lm_K255, lm_K1]
    refine h2 _ (lm_e238_6 ?_)
    unfold lm_q238_6
    rw [lm_K128]
    refine lm_gtT (by decide) (by decide) (by decide) ?_
    rw [lm_K0]
    refine k3 _ (lm_e238_118 ?_)
    unfold lm_q238_118
    rw [lm_K256]
    exact lm_geT (by omega) (by omega) (by omega) rfl
  · rw [if_pos hj]
    have := f1 0 j 0 (by decide) (by omega) (by decide)
    rw [show 0 * (2 ^ 8 * 1) + (j * 1 + 0) = j by omega] at this
    simp only [Nat.zero_mul, Nat.zero_add, Nat.mul_one, Nat.add_zero] at this
    exact (this.mu ln_cg.rf).eq
end LMDJ
