/-! ===== SLH of the reference: the address, the hash ===== -/
theorem lm_ctr4_sh (v : Int32) : ∀ t, t < 4 → lm_b8 (v >>> (Int32.ofNat (24 - 8 * t) &&& 31)) = lm_ctr4 v t := by
  intro t ht
  match t, ht with
  | 0, _ => rfl
  | 1, _ => rfl
  | 2, _ => rfl
  | 3, _ =>
    show lm_b8 (v >>> (Int32.ofNat 0 &&& 31)) = lm_b8 v
    rw [show (Int32.ofNat 0 &&& 31 : Int32) = 0 from rfl, Int32.shiftRight_zero]
theorem lm_by32 (v : Int32) {k s : Nat} (hk : k < 32) (hs : s < 8) (h : k + s < 32) : (lm_yb (v >>> (Int32.ofNat k &&& 31))).testBit s = v.toBitVec.getLsbD (k + s) := by
  rw [lm_yb_g _ hs, lm_tsr _ hk, BitVec.getLsbD_sshiftRight, if_pos h, decide_eq_false (by omega)]
  simp
theorem lm_i32g (T : Int64) {s : Nat} (hs : s < 32) : (Int64.toInt32 T).toBitVec.getLsbD s = T.toBitVec.getLsbD s := by
  rw [Int64.toBitVec_toInt32, BitVec.getLsbD_signExtend, decide_eq_true hs, if_pos (by omega)]
  rfl
theorem lm_by64 (T : Int64) {k s : Nat} (hk : k < 64) (hs : s < 8) (h : k + s < 64) : (lm_yb (Int64.toInt32 (T >>> ((Int32.toInt64 (Int32.ofNat k)) &&& 63)))).testBit s = T.toBitVec.getLsbD (k + s) := by
  rw [lm_yb_g _ hs, lm_i32g _ (by omega), Int64.toBitVec_shiftRight, BitVec.sshiftRight_eq', lm_smod6 k hk, BitVec.getLsbD_sshiftRight, if_pos h, decide_eq_false (by omega)]
  simp
theorem lm_uLg (T : Int64) {j : Nat} (hj : j < 32) : (Int64.toInt32 (lm_uL T (Int32.ofInt 32))).toBitVec.getLsbD j = T.toBitVec.getLsbD (32 + j) := by
  have e : (lm_uL T (Int32.ofInt 32)).toBitVec = T.toBitVec >>> 32 := rfl
  rw [lm_i32g _ hj, e, BitVec.getLsbD_ushiftRight]
theorem lm_b8_tb {u v : Int32} (h : ∀ s, s < 8 → (lm_yb u).testBit s = (lm_yb v).testBit s) : lm_b8 u = lm_b8 v := by
  refine lm_b8_eq (Nat.eq_of_testBit_eq fun s => ?_)
  by_cases c : s < 8
  · exact h s c
  · have hp : 256 ≤ 2 ^ s := Nat.pow_le_pow_right (n := 2) (by decide) (show 8 ≤ s by omega)
    rw [Nat.testBit_lt_two_pow (Nat.lt_of_lt_of_le (lm_yb_lt u) hp), Nat.testBit_lt_two_pow (Nat.lt_of_lt_of_le (lm_yb_lt v) hp)]
theorem lm_trb (T : Int64) {i : Nat} (hi : i < 8) : lm_b8 (Int64.toInt32 (T >>> ((Int32.toInt64 (Int32.ofNat (56 - 8 * i))) &&& 63))) = if i < 4 then lm_ctr4 (Int64.toInt32 (lm_uL T (Int32.ofInt 32))) i else lm_ctr4 (Int64.toInt32 T) (i - 4) := by
  by_cases c : i < 4
  · rw [if_pos c, ← lm_ctr4_sh _ i c]
    refine lm_b8_tb fun s hs => ?_
    rw [lm_by64 _ (by omega) hs (by omega), lm_by32 _ (by omega) hs (by omega), lm_uLg _ (by omega)]
    congr 1
    omega
  · rw [if_neg c, ← lm_ctr4_sh _ (i - 4) (by omega)]
    refine lm_b8_tb fun s hs => ?_
    rw [lm_by64 _ (by omega) hs (by omega), lm_by32 _ (by omega) hs (by omega), lm_i32g _ (by omega)]
    congr 1
    omega
def lm_rhd (L th tl : Int32) (t : Nat) : Int32 := if t < 4 then lm_ctr4 L t else if t < 8 then 0 else if t < 12 then lm_ctr4 th (t - 8) else lm_ctr4 tl (t - 12)
def lm_rAd (L th tl ty u y z : Int32) (t : Nat) : Int32 := if t < 16 then lm_rhd L th tl t else if t < 20 then lm_ctr4 ty (t - 16) else if t < 24 then lm_ctr4 u (t - 20) else if t < 28 then lm_ctr4 y (t - 24) else lm_ctr4 z (t - 28)
def lm_AR (L th tl : Int32) (F : Nat → Int32) : Prop := ∀ t, t < 16 → lm_b8 (F t) = lm_rhd L th tl t
def lm_s3 (v : Int32) : Prop := ∀ t, t < 3 → lm_ctr4 v t = 0
theorem lm_s3n : ∀ j, j < 64 → ∀ t, t < 3 → lm_ctr4 (Int32.ofNat j) t = 0 := by decide +kernel
/-- the two addresses are alike -/
theorem lm_rAd_t {L th tl ty u y z : Int32} (hL : lm_s3 L) (hty : lm_s3 ty) {t : Nat} : lm_rAd L th tl ty u y z t = ln_ad true L th tl ty u y z t := by
  have e3 : ∀ v : Int32, lm_ctr4 v 3 = lm_b8 v := fun v => rfl
  unfold lm_rAd ln_ad lm_hd lm_rhd
  show _ = if t < 19 then (if t < 3 then 0 else if t = 3 then lm_b8 L else if t < 8 then 0 else if t < 12 then lm_ctr4 th (t - 8) else if t < 16 then lm_ctr4 tl (t - 12) else 0) else if t = 19 then lm_b8 ty else if t < 19 + 5 then lm_ctr4 u (t - (19 + 1)) else if t < 19 + 9 then lm_ctr4 y (t - (19 + 5)) else lm_ctr4 z (t - (19 + 9))
  by_cases c1 : t < 16
  · rw [if_pos c1, if_pos (show t < 19 by omega)]
    by_cases c2 : t < 4
    · rw [if_pos c2]
      by_cases c3 : t < 3
      · rw [if_pos c3, hL t c3]
      · rw [if_neg c3, if_pos (show t = 3 by omega), show t = 3 by omega]
        exact e3 L
    · rw [if_neg c2, if_neg (show ¬ t < 3 by omega), if_neg (show ¬ t = 3 by omega)]
      by_cases c4 : t < 8
      · rw [if_pos c4, if_pos c4]
      · rw [if_neg c4, if_neg c4]
        by_cases c5 : t < 12
        · rw [if_pos c5, if_pos c5]
        · rw [if_neg c5, if_neg c5, if_pos c1]
  · rw [if_neg c1]
    by_cases c2 : t < 20
    · rw [if_pos c2]
      by_cases c3 : t < 19
      · rw [if_pos c3, if_neg (by omega), if_neg (by omega), if_neg (by omega), if_neg (by omega), if_neg (by omega), hty _ (by omega)]
      · rw [if_neg c3, if_pos (show t = 19 by omega), show t = 19 by omega]
        exact e3 ty
    · rw [if_neg c2, if_neg (show ¬ t < 19 by omega), if_neg (show ¬ t = 19 by omega)]
/-- the place of a byte of the short address in the long one -/
def lm_spl2 (t : Nat) : Nat := if t = 0 then 3 else if t < 9 then t + 7 else if t = 9 then 19 else t + 10
theorem lm_rAd_f {L th tl ty u y z : Int32} {t : Nat} (ht : t < 22) : lm_rAd L th tl ty u y z (lm_spl2 t) = ln_ad false L th tl ty u y z t := by
  have e3 : ∀ v : Int32, lm_ctr4 v 3 = lm_b8 v := fun v => rfl
  unfold ln_ad lm_hd lm_spl2
  show _ = if t < 9 then (if t = 0 then lm_b8 L else if t < 5 then lm_ctr4 th (t - 1) else lm_ctr4 tl (t - 5)) else if t = 9 then lm_b8 ty else if t < 9 + 5 then lm_ctr4 u (t - (9 + 1)) else if t < 9 + 9 then lm_ctr4 y (t - (9 + 5)) else lm_ctr4 z (t - (9 + 9))
  by_cases c0 : t = 0
  · rw [if_pos c0, if_pos (show t < 9 by omega), if_pos c0]
    unfold lm_rAd lm_rhd
    rw [if_pos (by decide), if_pos (by decide)]
    exact e3 L
  · rw [if_neg c0, if_neg c0]
    by_cases c1 : t < 9
    · rw [if_pos c1, if_pos c1]
      unfold lm_rAd lm_rhd
      rw [if_pos (by omega), if_neg (by omega), if_neg (by omega)]
      by_cases c2 : t < 5
      · rw [if_pos (by omega), if_pos c2, show t + 7 - 8 = t - 1 by omega]
      · rw [if_neg (by omega), if_neg c2, show t + 7 - 12 = t - 5 by omega]
    · rw [if_neg c1, if_neg c1]
      by_cases c2 : t = 9
      · rw [if_pos c2, if_pos c2]
        unfold lm_rAd
        rw [if_neg (by decide), if_pos (by decide)]
        exact e3 ty
      · rw [if_neg c2, if_neg c2]
        unfold lm_rAd
        rw [if_neg (by omega), if_neg (by omega)]
        by_cases c3 : t < 14
        · rw [if_pos (by omega), if_pos (by omega), show t + 10 - 20 = t - (9 + 1) by omega]
        · rw [if_neg (show ¬ t + 10 < 24 by omega), if_neg (show ¬ t < 9 + 5 by omega)]
          by_cases c4 : t < 18
          · rw [if_pos (by omega), if_pos (by omega), show t + 10 - 24 = t - (9 + 5) by omega]
          · rw [if_neg (show ¬ t + 10 < 28 by omega), if_neg (show ¬ t < 9 + 9 by omega), show t + 10 - 28 = t - (9 + 9) by omega]
section LMTD
variable {sc : lm_H} {C : lm_CX} {d s k : Nat} {m m' : lm_MI} {n n' : lm_ML} {x : lm_H × Nat × Nat} {L th tl ty u y z : Int32} {P X G : Nat → Int32}
/-- a loop that writes the address -/
def lm_I333 (A : Nat → Int32) (m0 : lm_MI) (n0 : lm_ML) (i : Nat) (m : lm_MI) (n : lm_ML) : Prop := n = n0 ∧ (∀ r, r ≠ 333 → m r = m0 r) ∧ ∀ t, t < i → lm_b8 (m 333 t) = A t
theorem lm_I333.ap {A : Nat → Int32} {m0 : lm_MI} {n0 : lm_ML} {i : Nat} {v : Int32} (h : lm_I333 A m0 n0 i m n) (e : lm_b8 v = A i) : lm_I333 A m0 n0 (i + 1) (lm_u m 333 i v) n := by
  refine ⟨h.1, fun r hr => by rw [lm_u_row hr, h.2.1 r hr], fun t ht => ?_⟩
  by_cases c : t = i
  · rw [c, lm_u_eq, e]
  · rw [lm_u_ne (fun g => c g.2), h.2.2 t (by omega)]
theorem lm_u108 {T : Int64} : ∃ m', lm_cal sc (d + 1) 108 [.ref 203, .int L, .long T] (lm_w m n x) = some (.ok none, lm_w m' n x) ∧ (∀ r, r ≠ 333 → m' r = m r) ∧ lm_AR L (Int64.toInt32 (lm_uL T (Int32.ofInt 32))) (Int64.toInt32 T) (m' 333) := by
  generalize eA : lm_rhd L (Int64.toInt32 (lm_uL T (Int32.ofInt 32))) (Int64.toInt32 T) = A
  obtain ⟨m1, n1, I1, k1⟩ := lm_lp (sc := sc) (d := d) (x := x) (hs := lm_m108.2.2.2.2.1) (code := lm_reg lm_m108.2.2.2.2.2) (fr := fun i => (3, [(0, .ref 203), (1, .int L), (2, .long T), (4, .int (Int32.ofNat i))], [])) (I := lm_I333 A m n) (b := 4) (fun i hi m2 n2 h => ⟨_, _, h.ap (v := lm_b8 (L >>> (Int32.ofNat (24 - 8 * i) &&& 31))) (by
      rw [lm_b8b8, lm_ctr4_sh _ i hi, ← eA]
      unfold lm_rhd
      rw [if_pos hi]), fun R KK => by
      refine lm_e108_3 ?_
      unfold lm_q108_3
      rw [show Int32.ofInt 4 = Int32.ofNat 4 from rfl, lm_K1, lm_oo, show Int32.ofInt 24 = Int32.ofNat 24 from rfl, show Int32.ofInt 8 = Int32.ofNat 8 from rfl, lm_om, lm_osu (by omega)]
      refine lm_geF (by omega) (by omega) (by omega) ?_
      repeat (first
    | ((with_reducible apply lm_sI); exact rfl)
    | ((with_reducible apply lm_sR); exact rfl)
    | ((with_reducible apply lm_sS); exact rfl; exact rfl)
    | ((with_reducible apply lm_sL); exact rfl)
    | ((with_reducible apply lm_sP); exact rfl; exact rfl)
    | ((with_reducible apply lm_sPL); exact rfl; exact rfl)
    | ((with_reducible apply lm_sAA); exact rfl; exact rfl)
    | ((with_reducible apply lm_sA); (first | exact rfl | assumption); omega)
    | ((with_reducible apply lm_sJ); (first | exact rfl | assumption); omega)
    | ((with_reducible apply lm_sB); (first | exact rfl | assumption); omega)
    | ((with_reducible apply lm_wA); (first | exact rfl | assumption); omega)
    | ((with_reducible apply lm_wJ); (first | exact rfl | assumption); omega)
    | ((with_reducible apply lm_wB); (first | exact rfl | assumption); omega)
    | ((with_reducible apply lm_sAl); (first | exact rfl | assumption); omega)
    | ((with_reducible apply lm_iW); decide))
      exact KK⟩) 4 0 rfl m n ⟨rfl, fun _ _ => rfl, fun t ht => absurd ht (Nat.not_lt_zero _)⟩
  obtain ⟨m2, n2, I2, k2⟩ := lm_lp (sc := sc) (d := d) (x := x) (hs := lm_m108.2.2.2.2.1) (code := lm_reg lm_m108.2.2.2.2.2) (fr := fun i => (36, [(0, .ref 203), (2, .long T), (4, .int (Int32.ofNat i))], [])) (I := fun i => lm_I333 A m n (4 + i)) (b := 4) (fun i hi m3 n3 h => ⟨_, _, h.ap (v := Int32.ofInt 0) (by
      rw [← eA]
      unfold lm_rhd
      rw [if_neg (by omega), if_pos (by omega)]
      decide), fun R KK => by
      refine lm_e108_36 ?_
      unfold lm_q108_36
      rw [show Int32.ofInt 4 = Int32.ofNat 4 from rfl, lm_K1, lm_oo, lm_oo]
      refine lm_geF (by omega) (by omega) (by omega) ?_
      repeat (first
    | ((with_reducible apply lm_sI); exact rfl)
    | ((with_reducible apply lm_sR); exact rfl)
    | ((with_reducible apply lm_sS); exact rfl; exact rfl)
    | ((with_reducible apply lm_sL); exact rfl)
    | ((with_reducible apply lm_sP); exact rfl; exact rfl)
    | ((with_reducible apply lm_sPL); exact rfl; exact rfl)
    | ((with_reducible apply lm_sAA); exact rfl; exact rfl)
    | ((with_reducible apply lm_sA); (first | exact rfl | assumption); omega)
    | ((with_reducible apply lm_sJ); (first | exact rfl | assumption); omega)
    | ((with_reducible apply lm_sB); (first | exact rfl | assumption); omega)
    | ((with_reducible apply lm_wA); (first | exact rfl | assumption); omega)
    | ((with_reducible apply lm_wJ); (first | exact rfl | assumption); omega)
    | ((with_reducible apply lm_wB); (first | exact rfl | assumption); omega)
    | ((with_reducible apply lm_sAl); (first | exact rfl | assumption); omega)
    | ((with_reducible apply lm_iW); decide))
      exact KK⟩) 4 0 rfl m1 n1 I1
  obtain ⟨m3, n3, I3, k3⟩ := lm_lp (sc := sc) (d := d) (x := x) (hs := lm_m108.2.2.2.2.1) (code := lm_reg lm_m108.2.2.2.2.2) (fr := fun i => (61, [(0, .ref 203), (2, .long T), (4, .int (Int32.ofNat i))], [])) (I := fun i => lm_I333 A m n (8 + i)) (b := 8) (fun i hi m4 n4 h => ⟨_, _, h.ap (v := lm_b8 (Int64.toInt32 (T >>> ((Int32.toInt64 (Int32.ofNat (56 - 8 * i))) &&& 63)))) (by
      rw [lm_b8b8, lm_trb T hi, ← eA]
      unfold lm_rhd
      rw [if_neg (show ¬ 8 + i < 4 by omega), if_neg (show ¬ 8 + i < 8 by omega), Nat.add_sub_cancel_left]
      by_cases c : i < 4
      · rw [if_pos c, if_pos (show 8 + i < 12 by omega)]
      · rw [if_neg c, if_neg (show ¬ 8 + i < 12 by omega), show 8 + i - 12 = i - 4 by omega]), fun R KK => by
      refine lm_e108_61 ?_
      unfold lm_q108_61
      rw [show Int32.ofInt 8 = Int32.ofNat 8 from rfl, lm_K1, lm_oo, lm_oo, show Int32.ofInt 56 = Int32.ofNat 56 from rfl, lm_om, lm_osu (by omega)]
      refine lm_geF (by omega) (by omega) (by omega) ?_
      repeat (first
    | ((with_reducible apply lm_sI); exact rfl)
    | ((with_reducible apply lm_sR); exact rfl)
    | ((with_reducible apply lm_sS); exact rfl; exact rfl)
    | ((with_reducible apply lm_sL); exact rfl)
    | ((with_reducible apply lm_sP); exact rfl; exact rfl)
    | ((with_reducible apply lm_sPL); exact rfl; exact rfl)
    | ((with_reducible apply lm_sAA); exact rfl; exact rfl)
    | ((with_reducible apply lm_sA); (first | exact rfl | assumption); omega)
    | ((with_reducible apply lm_sJ); (first | exact rfl | assumption); omega)
    | ((with_reducible apply lm_sB); (first | exact rfl | assumption); omega)
    | ((with_reducible apply lm_wA); (first | exact rfl | assumption); omega)
    | ((with_reducible apply lm_wJ); (first | exact rfl | assumption); omega)
    | ((with_reducible apply lm_wB); (first | exact rfl | assumption); omega)
    | ((with_reducible apply lm_sAl); (first | exact rfl | assumption); omega)
    | ((with_reducible apply lm_iW); decide))
      exact KK⟩) 8 0 rfl m2 n2 I2
  obtain ⟨z1, z2, z3⟩ := I3
  subst z1
  refine ⟨m3, ?_, z2, fun t ht => by rw [z3 t (by omega), ← eA]⟩
  refine lm_cal_of (Y := lm_m108) rfl rfl (lm_e108_0 ?_)
  unfold lm_q108_0
  rw [lm_K0]
  refine k1 _ (lm_e108_3 ?_)
  unfold lm_q108_3
  rw [show Int32.ofInt 4 = Int32.ofNat 4 from rfl, lm_K0]
  refine lm_geT (by decide) (by decide) (by decide) ?_
  refine k2 _ (lm_e108_36 ?_)
  unfold lm_q108_36
  rw [show Int32.ofInt 4 = Int32.ofNat 4 from rfl, lm_K0]
  refine lm_geT (by decide) (by decide) (by decide) ?_
  refine k3 _ (lm_e108_61 ?_)
  unfold lm_q108_61
  rw [show Int32.ofInt 8 = Int32.ofNat 8 from rfl]
  exact lm_geT (by decide) (by decide) (by decide) rfl
/-- the words of the address's second half -/
def lm_I179 (ty u y z : Int32) (m0 : lm_MI) (n0 : lm_ML) (i : Nat) (m : lm_MI) (n : lm_ML) : Prop := n = n0 ∧ (∀ r, r ≠ 333 → m r = m0 r) ∧ (∀ t, t < 16 → m 333 t = m0 333 t) ∧ ∀ t, t < i → lm_b8 (m 333 (16 + t)) = lm_ctr4 ty t ∧ lm_b8 (m 333 (20 + t)) = lm_ctr4 u t ∧ lm_b8 (m 333 (24 + t)) = lm_ctr4 y t ∧ lm_b8 (m 333 (28 + t)) = lm_ctr4 z t
theorem lm_u179 (hA : lm_AR L th tl (m 333)) : ∃ m', lm_cal sc (d + 1) 179 [.ref 203, .int ty, .int u, .int y, .int z] (lm_w m n x) = some (.ok none, lm_w m' n x) ∧ (∀ r, r ≠ 333 → m' r = m r) ∧ ∀ t, t < 32 → lm_b8 (m' 333 t) = lm_rAd L th tl ty u y z t := by
  obtain ⟨m1, n1, ⟨z1, z2, z3, z4⟩, k1⟩ := lm_lp (sc := sc) (d := d) (x := x) (hs := lm_m179.2.2.2.2.1) (code := lm_reg lm_m179.2.2.2.2.2) (fr := fun i => (3, [(0, .ref 203), (1, .int ty), (2, .int u), (3, .int y), (4, .int z), (5, .int (Int32.ofNat i))], [])) (I := lm_I179 ty u y z m n) (b := 4) (fun i hi m2 n2 h => by
      obtain ⟨h1, h2, h3, h4⟩ := h
      have hc := fun v => lm_ctr4_sh v i hi
      refine ⟨lm_u (lm_u (lm_u (lm_u m2 333 (16 + i) (lm_b8 (ty >>> (Int32.ofNat (24 - 8 * i) &&& 31)))) 333 (20 + i) (lm_b8 (u >>> (Int32.ofNat (24 - 8 * i) &&& 31)))) 333 (24 + i) (lm_b8 (y >>> (Int32.ofNat (24 - 8 * i) &&& 31)))) 333 (28 + i) (lm_b8 (z >>> (Int32.ofNat (24 - 8 * i) &&& 31))), n2, ⟨h1, fun r hr => by rw [lm_u_row hr, lm_u_row hr, lm_u_row hr, lm_u_row hr, h2 r hr], fun t ht => by rw [lm_u_ne (by omega), lm_u_ne (by omega), lm_u_ne (by omega), lm_u_ne (by omega), h3 t ht], fun t ht => ?_⟩, fun R KK => ?_⟩
      · by_cases c : t = i
        · subst c
          refine ⟨?_, ?_, ?_, ?_⟩
          · rw [lm_u_ne (by omega), lm_u_ne (by omega), lm_u_ne (by omega), lm_u_eq, lm_b8b8, hc]
          · rw [lm_u_ne (by omega), lm_u_ne (by omega), lm_u_eq, lm_b8b8, hc]
          · rw [lm_u_ne (by omega), lm_u_eq, lm_b8b8, hc]
          · rw [lm_u_eq, lm_b8b8, hc]
        · have g := h4 t (by omega)
          refine ⟨?_, ?_, ?_, ?_⟩
          · rw [lm_u_ne (by omega), lm_u_ne (by omega), lm_u_ne (by omega), lm_u_ne (by omega)]; exact g.1
          · rw [lm_u_ne (by omega), lm_u_ne (by omega), lm_u_ne (by omega), lm_u_ne (by omega)]; exact g.2.1
          · rw [lm_u_ne (by omega), lm_u_ne (by omega), lm_u_ne (by omega), lm_u_ne (by omega)]; exact g.2.2.1
          · rw [lm_u_ne (by omega), lm_u_ne (by omega), lm_u_ne (by omega), lm_u_ne (by omega)]; exact g.2.2.2
      · refine lm_e179_3 ?_
        unfold lm_q179_3
        rw [show Int32.ofInt 4 = Int32.ofNat 4 from rfl, lm_K1, lm_K16, show Int32.ofInt 20 = Int32.ofNat 20 from rfl, show Int32.ofInt 24 = Int32.ofNat 24 from rfl, show Int32.ofInt 28 = Int32.ofNat 28 from rfl, show Int32.ofInt 8 = Int32.ofNat 8 from rfl, lm_om, lm_osu (by omega), lm_oo, lm_oo, lm_oo, lm_oo, lm_oo]
        refine lm_geF (by omega) (by omega) (by omega) ?_
        repeat (first
    | ((with_reducible apply lm_sI); exact rfl)
    | ((with_reducible apply lm_sR); exact rfl)
    | ((with_reducible apply lm_sS); exact rfl; exact rfl)
    | ((with_reducible apply lm_sL); exact rfl)
    | ((with_reducible apply lm_sP); exact rfl; exact rfl)
    | ((with_reducible apply lm_sPL); exact rfl; exact rfl)
    | ((with_reducible apply lm_sAA); exact rfl; exact rfl)
    | ((with_reducible apply lm_sA); (first | exact rfl | assumption); omega)
    | ((with_reducible apply lm_sJ); (first | exact rfl | assumption); omega)
    | ((with_reducible apply lm_sB); (first | exact rfl | assumption); omega)
    | ((with_reducible apply lm_wA); (first | exact rfl | assumption); omega)
    | ((with_reducible apply lm_wJ); (first | exact rfl | assumption); omega)
    | ((with_reducible apply lm_wB); (first | exact rfl | assumption); omega)
    | ((with_reducible apply lm_sAl); (first | exact rfl | assumption); omega)
    | ((with_reducible apply lm_iW); decide))
        exact KK) 4 0 rfl m n ⟨rfl, fun _ _ => rfl, fun _ _ => rfl, fun t ht => absurd ht (Nat.not_lt_zero _)⟩
  subst z1
  refine ⟨m1, ?_, z2, fun t ht => ?_⟩
  · refine lm_cal_of (Y := lm_m179) rfl rfl (lm_e179_0 ?_)
    unfold lm_q179_0
    rw [lm_K0]
    refine k1 _ (lm_e179_3 ?_)
    unfold lm_q179_3
    rw [show Int32.ofInt 4 = Int32.ofNat 4 from rfl]
    exact lm_geT (by decide) (by decide) (by decide) rfl
  · unfold lm_rAd
    by_cases c1 : t < 16
    · rw [if_pos c1, z3 t c1, hA t c1]
    · rw [if_neg c1]
      by_cases c2 : t < 20
      · rw [if_pos c2, ← (z4 (t - 16) (by omega)).1, show 16 + (t - 16) = t by omega]
      · rw [if_neg c2]
        by_cases c3 : t < 24
        · rw [if_pos c3, ← (z4 (t - 20) (by omega)).2.1, show 20 + (t - 20) = t by omega]
        · rw [if_neg c3]
          by_cases c4 : t < 28
          · rw [if_pos c4, ← (z4 (t - 24) (by omega)).2.2.1, show 24 + (t - 24) = t by omega]
          · rw [if_neg c4, ← (z4 (t - 28) (by omega)).2.2.2, show 28 + (t - 28) = t by omega]
end LMTD
