/-! ===== the class's pack; the reference's bits ===== -/
section LMPK2
variable {sc : lm_H} {e d : Nat} {m m0 : lm_MI} {n : lm_ML} {x : lm_H × Nat × Nat} {p q v a : Nat}
/-- bytes written so far -/
def lm_PW (m0 m : lm_MI) (q a nx : Nat) (S : Nat → Bool) : Prop := (∀ r, r ≠ q → m r = m0 r) ∧ (∀ j, j < a ∨ a + nx ≤ j → m q j = m0 q j) ∧ ∀ j, j < nx → lm_yb (m q (a + j)) = ln_bv S (8 * j) 8
theorem lm_l219i {i : Nat} {S : Nat → Bool} (hq : lm_ar q = some (1, v)) (hd1 : 1 ≤ d) (hd : d ≤ 20) (hv : v ≤ 70000) (hi : i < 256) (ha : a + 32 * d ≤ v) : ∀ k b nx (m1 : lm_MI), b ≤ 8 * k + 7 → b ≤ 27 → 8 * nx + b = (i + 1) * d → lm_PW m0 m1 q a nx S → ∃ b2 nx2 m2, b2 ≤ 7 ∧ 8 * nx2 + b2 = (i + 1) * d ∧ lm_PW m0 m2 q a nx2 S ∧ ∀ R, lm_rn sc e lm_m219.2.2.2.2.1 (lm_reg lm_m219.2.2.2.2.2) (37, [(0, .ref p), (1, .int (Int32.ofNat d)), (2, .ref q), (4, .int (Int32.ofNat (ln_bv S (8 * nx2) b2))), (5, .int (Int32.ofNat b2)), (6, .int (Int32.ofNat (a + nx2))), (7, .int (Int32.ofNat i))], []) (lm_w m2 n x) = some R → lm_rn sc e lm_m219.2.2.2.2.1 (lm_reg lm_m219.2.2.2.2.2) (37, [(0, .ref p), (1, .int (Int32.ofNat d)), (2, .ref q), (4, .int (Int32.ofNat (ln_bv S (8 * nx) b))), (5, .int (Int32.ofNat b)), (6, .int (Int32.ofNat (a + nx))), (7, .int (Int32.ofNat i))], []) (lm_w m1 n x) = some R := by
  intro k
  induction k with
  | zero => intro b nx m1 hb _ hbn h; exact ⟨b, nx, m1, by omega, hbn, h, fun R K => K⟩
  | succ k ih =>
    intro b nx m1 hb hb27 hbn h
    by_cases c : b ≤ 7
    · exact ⟨b, nx, m1, c, hbn, h, fun R K => K⟩
    · have hid : (i + 1) * d ≤ 256 * d := Nat.mul_le_mul_right d hi
      have hlt : ln_bv S (8 * nx) b < 2 ^ b := lm_bv_lt
      have hp : 2 ^ b ≤ 2 ^ 27 := Nat.pow_le_pow_right (by decide) hb27
      have eb : b = 8 + (b - 8) := by omega
      have em : ln_bv S (8 * nx) b % 256 = ln_bv S (8 * nx) 8 := by
        conv => lhs; rw [eb]
        exact lm_bv_mod (b := 8)
      have ed : ln_bv S (8 * nx) b / 2 ^ 8 = ln_bv S (8 * (nx + 1)) (b - 8) := by
        conv => lhs; rw [eb]
        rw [lm_bv_div (b := 8)]
        rfl
      obtain ⟨b2, nx2, m2, g1, g2, g3, g4⟩ := ih (b - 8) (nx + 1) (lm_u m1 q (a + nx) (lm_b8 (Int32.ofNat (ln_bv S (8 * nx) b)))) (by omega) (by omega) (by omega) (by
        refine ⟨fun r hr => (lm_u_row hr).trans (h.1 r hr), fun j hj => ?_, fun j hj => ?_⟩
        · rw [lm_u_ne (by omega)]
          exact h.2.1 j (by omega)
        · by_cases c2 : j = nx
          · subst c2
            rw [lm_u_eq, lm_yb_b8, lm_yb_n (by omega), em]
          · rw [lm_u_ne (by omega)]
            exact h.2.2 j (by omega))
      refine ⟨b2, nx2, m2, g1, g2, g3, fun R K => lm_e219_37 ?_⟩
      unfold lm_q219_37
      rw [lm_K8]
      refine lm_ltF (by omega) (by omega) (by omega) ?_
      rw [lm_usn (by omega) (by omega), ed, show Int32.ofNat b + Int32.ofInt (-8) = Int32.ofNat (b - 8) by rw [lm_oN, lm_oN, lm_iA]; congr 1; omega, lm_K1, lm_oo]
      repeat (first
    | ((with_reducible apply lm_sI); exact rfl)
    | ((with_reducible apply lm_sR); exact rfl)
    | ((with_reducible apply lm_sS); exact rfl; exact rfl)
    | ((with_reducible apply lm_sL); exact rfl)
    | ((with_reducible apply lm_sP); exact rfl; exact rfl)
    | ((with_reducible apply lm_sPL); exact rfl; exact rfl)
    | ((with_reducible apply lm_sAA); exact rfl; exact rfl)
    | ((with_reducible apply lm_sA); (first | exact rfl | assumption); omega)
    | ((with_reducible apply lm_sJ); (first | exact rfl | assumption); omega)
    | ((with_reducible apply lm_sB); (first | exact rfl | assumption); omega)
    | ((with_reducible apply lm_wA); (first | exact rfl | assumption); omega)
    | ((with_reducible apply lm_wJ); (first | exact rfl | assumption); omega)
    | ((with_reducible apply lm_wB); (first | exact rfl | assumption); omega)
    | ((with_reducible apply lm_sAl); (first | exact rfl | assumption); omega)
    | ((with_reducible apply lm_iW); decide))
      exact g4 R K
/-- pack -/
theorem lm_u219 {F : Nat → Nat} (hq : lm_ar q = some (1, v)) (hp : lm_ar p = some (0, 256)) (hqp : p ≠ q) (hd1 : 1 ≤ d) (hd : d ≤ 20) (hv : v ≤ 70000) (ha : a + 32 * d ≤ v) (hF : ∀ i, i < 256 → m p i = Int32.ofNat (F i) ∧ F i < 2 ^ d) : ∃ m', lm_cal sc (e + 1) 219 [.ref p, .int (Int32.ofNat d), .ref q, .int (Int32.ofNat a)] (lm_w m n x) = some (.ok none, lm_w m' n x) ∧ lm_PW m m' q a (32 * d) (lm_ts F d) := by
  have hmain : ∀ k i b nx (m1 : lm_MI), i + k = 256 → b ≤ 7 → 8 * nx + b = i * d → lm_PW m m1 q a nx (lm_ts F d) → ∃ m', lm_PW m m' q a (32 * d) (lm_ts F d) ∧ lm_rn sc e lm_m219.2.2.2.2.1 (lm_reg lm_m219.2.2.2.2.2) (12, [(0, .ref p), (1, .int (Int32.ofNat d)), (2, .ref q), (4, .int (Int32.ofNat (ln_bv (lm_ts F d) (8 * nx) b))), (5, .int (Int32.ofNat b)), (6, .int (Int32.ofNat (a + nx))), (7, .int (Int32.ofNat i))], []) (lm_w m1 n x) = some (.ok none, lm_w m' n x) := by
    intro k
    induction k with
    | zero =>
      intro i b nx m1 hk hb hbn h
      have e0 : i = 256 := hk
      subst e0
      have e1 : nx = 32 * d := by omega
      subst e1
      refine ⟨m1, h, lm_e219_12 ?_⟩
      unfold lm_q219_12
      repeat (first
    | ((with_reducible apply lm_sI); exact rfl)
    | ((with_reducible apply lm_sR); exact rfl)
    | ((with_reducible apply lm_sS); exact rfl; exact rfl)
    | ((with_reducible apply lm_sL); exact rfl)
    | ((with_reducible apply lm_sP); exact rfl; exact rfl)
    | ((with_reducible apply lm_sPL); exact rfl; exact rfl)
    | ((with_reducible apply lm_sAA); exact rfl; exact rfl)
    | ((with_reducible apply lm_sA); (first | exact rfl | assumption); omega)
    | ((with_reducible apply lm_sJ); (first | exact rfl | assumption); omega)
    | ((with_reducible apply lm_sB); (first | exact rfl | assumption); omega)
    | ((with_reducible apply lm_wA); (first | exact rfl | assumption); omega)
    | ((with_reducible apply lm_wJ); (first | exact rfl | assumption); omega)
    | ((with_reducible apply lm_wB); (first | exact rfl | assumption); omega)
    | ((with_reducible apply lm_sAl); (first | exact rfl | assumption); omega)
    | ((with_reducible apply lm_iW); decide))
      exact lm_geT (by omega) (by omega) (by omega) rfl
    | succ k ih =>
      intro i b nx m1 hk hb hbn h
      have hsd : (i + 1) * d = i * d + d := Nat.succ_mul i d
      obtain ⟨b2, nx2, m2, g1, g2, g3, g4⟩ := lm_l219i (sc := sc) (e := e) (n := n) (x := x) (p := p) (i := i) hq hd1 hd hv (by omega) ha 3 (b + d) nx m1 (by omega) (by omega) (by omega) h
      obtain ⟨m', f1, f2⟩ := ih (i + 1) b2 nx2 m2 (by omega) g1 g2 g3
      have hF' := hF i (by omega)
      have hlt : ln_bv (lm_ts F d) (8 * nx) b < 2 ^ b := lm_bv_lt
      have hlt2 : ln_bv (lm_ts F d) (8 * nx) (b + d) < 2 ^ (b + d) := lm_bv_lt
      have hpw : 2 ^ (b + d) ≤ 2 ^ 27 := Nat.pow_le_pow_right (by decide) (by omega)
      have eb : ln_bv (lm_ts F d) (8 * nx) (b + d) = ln_bv (lm_ts F d) (8 * nx) b + F i * 2 ^ b := by
        rw [lm_bv_add, hbn, lm_bv_ts hd1 hF'.2]
      refine ⟨m', f1, lm_e219_12 ?_⟩
      unfold lm_q219_12
      repeat (first
    | ((with_reducible apply lm_sI); exact rfl)
    | ((with_reducible apply lm_sR); exact rfl)
    | ((with_reducible apply lm_sS); exact rfl; exact rfl)
    | ((with_reducible apply lm_sL); exact rfl)
    | ((with_reducible apply lm_sP); exact rfl; exact rfl)
    | ((with_reducible apply lm_sPL); exact rfl; exact rfl)
    | ((with_reducible apply lm_sAA); exact rfl; exact rfl)
    | ((with_reducible apply lm_sA); (first | exact rfl | assumption); omega)
    | ((with_reducible apply lm_sJ); (first | exact rfl | assumption); omega)
    | ((with_reducible apply lm_sB); (first | exact rfl | assumption); omega)
    | ((with_reducible apply lm_wA); (first | exact rfl | assumption); omega)
    | ((with_reducible apply lm_wJ); (first | exact rfl | assumption); omega)
    | ((with_reducible apply lm_wB); (first | exact rfl | assumption); omega)
    | ((with_reducible apply lm_sAl); (first | exact rfl | assumption); omega)
    | ((with_reducible apply lm_iW); decide))
      refine lm_geF (by omega) (by omega) (by omega) ?_
      repeat (first
    | ((with_reducible apply lm_sI); exact rfl)
    | ((with_reducible apply lm_sR); exact rfl)
    | ((with_reducible apply lm_sS); exact rfl; exact rfl)
    | ((with_reducible apply lm_sL); exact rfl)
    | ((with_reducible apply lm_sP); exact rfl; exact rfl)
    | ((with_reducible apply lm_sPL); exact rfl; exact rfl)
    | ((with_reducible apply lm_sAA); exact rfl; exact rfl)
    | ((with_reducible apply lm_sA); (first | exact rfl | assumption); omega)
    | ((with_reducible apply lm_sJ); (first | exact rfl | assumption); omega)
    | ((with_reducible apply lm_sB); (first | exact rfl | assumption); omega)
    | ((with_reducible apply lm_wA); (first | exact rfl | assumption); omega)
    | ((with_reducible apply lm_wJ); (first | exact rfl | assumption); omega)
    | ((with_reducible apply lm_wB); (first | exact rfl | assumption); omega)
    | ((with_reducible apply lm_sAl); (first | exact rfl | assumption); omega)
    | ((with_reducible apply lm_iW); decide))
      rw [h.1 p hqp, hF'.1, lm_orsh hlt (by omega) (by rw [← eb]; omega), lm_oo, ← eb]
      refine g4 _ (lm_e219_37 ?_)
      unfold lm_q219_37
      rw [lm_K8]
      refine lm_ltT (by omega) (by omega) (by omega) ?_
      rw [lm_K1, lm_oo]
      exact f2
  obtain ⟨m', f1, f2⟩ := hmain 256 0 0 0 m (by omega) (by omega) (by omega) ⟨fun _ _ => rfl, fun _ _ => rfl, fun j hj => absurd hj (by omega)⟩
  refine ⟨m', ?_, f1⟩
  refine lm_cal_of (Y := lm_m219) rfl rfl (lm_e219_0 ?_)
  unfold lm_q219_0
  rw [lm_K0]
  exact f2
/-- bitOf -/
theorem lm_u157 {t : Nat} (hq : lm_ar q = some (1, v)) (hv : v ≤ 70000) (ht : a + t / 8 < v) (ht2 : t < 2000000) : lm_cal sc (e + 1) 157 [.ref q, .int (Int32.ofNat a), .int (Int32.ofNat t)] (lm_w m n x) = some (.ok (some (.int (Int32.ofNat (ln_bt (fun j => m q (a + j)) t).toNat))), lm_w m n x) := by
  refine lm_cal_of (Y := lm_m157) rfl rfl (lm_e157_0 ?_)
  unfold lm_q157_0
  rw [lm_K8, lm_od (by omega) (by omega), lm_oo, lm_orm (by omega) (by omega)]
  repeat (first
    | ((with_reducible apply lm_sI); exact rfl)
    | ((with_reducible apply lm_sR); exact rfl)
    | ((with_reducible apply lm_sS); exact rfl; exact rfl)
    | ((with_reducible apply lm_sL); exact rfl)
    | ((with_reducible apply lm_sP); exact rfl; exact rfl)
    | ((with_reducible apply lm_sPL); exact rfl; exact rfl)
    | ((with_reducible apply lm_sAA); exact rfl; exact rfl)
    | ((with_reducible apply lm_sA); (first | exact rfl | assumption); omega)
    | ((with_reducible apply lm_sJ); (first | exact rfl | assumption); omega)
    | ((with_reducible apply lm_sB); (first | exact rfl | assumption); omega)
    | ((with_reducible apply lm_wA); (first | exact rfl | assumption); omega)
    | ((with_reducible apply lm_wJ); (first | exact rfl | assumption); omega)
    | ((with_reducible apply lm_wB); (first | exact rfl | assumption); omega)
    | ((with_reducible apply lm_sAl); (first | exact rfl | assumption); omega)
    | ((with_reducible apply lm_iW); decide))
  rw [lm_bit1 _ (by omega), lm_yb_tb _ (by omega)]
  rfl
/-- takeBits -/
theorem lm_u77 {T : Nat} (hq : lm_ar q = some (1, v)) (hv : v ≤ 70000) (hT : m 203 24 = Int32.ofNat T) (hTv : T + d ≤ 8 * (v - a)) (hav : a ≤ v) (hd : d ≤ 20) : lm_cal sc (e + 2) 77 [.ref 203, .ref q, .int (Int32.ofNat a), .int (Int32.ofNat d)] (lm_w m n x) = some (.ok (some (.int (Int32.ofNat (ln_bv (ln_bt (fun j => m q (a + j))) T d)))), lm_w (lm_u m 203 24 (Int32.ofNat (T + d))) n x) := by
  obtain ⟨m', n', ⟨e1, e2⟩, h2⟩ := lm_lp (sc := sc) (d := e + 1) (b := d) (hs := lm_m77.2.2.2.2.1) (code := lm_reg lm_m77.2.2.2.2.2) (x := x) (fr := fun k => (6, [(0, .ref 203), (1, .ref q), (2, .int (Int32.ofNat a)), (3, .int (Int32.ofNat d)), (4, .int (Int32.ofNat (ln_bv (ln_bt (fun j => m q (a + j))) T k))), (5, .int (Int32.ofNat k))], [])) (I := fun k m' n' => m' = m ∧ n' = n) (fun k hk m1 n1 ⟨e1, e2⟩ => by
    refine ⟨m, n, ⟨rfl, rfl⟩, fun R K => lm_e77_6 ?_⟩
    subst e1
    subst e2
    have hlt : ln_bv (ln_bt (fun j => m1 q (a + j))) T k < 2 ^ k := lm_bv_lt
    have hlt2 : ln_bv (ln_bt (fun j => m1 q (a + j))) T (k + 1) < 2 ^ (k + 1) := lm_bv_lt
    have hp : 2 ^ (k + 1) ≤ 2 ^ 20 := Nat.pow_le_pow_right (by decide) (by omega)
    unfold lm_q77_6
    refine lm_geF (by omega) (by omega) (by omega) ?_
    repeat (first
    | ((with_reducible apply lm_sI); exact rfl)
    | ((with_reducible apply lm_sR); exact rfl)
    | ((with_reducible apply lm_sS); exact rfl; exact rfl)
    | ((with_reducible apply lm_sL); exact rfl)
    | ((with_reducible apply lm_sP); exact rfl; exact rfl)
    | ((with_reducible apply lm_sPL); exact rfl; exact rfl)
    | ((with_reducible apply lm_sAA); exact rfl; exact rfl)
    | ((with_reducible apply lm_sA); (first | exact rfl | assumption); omega)
    | ((with_reducible apply lm_sJ); (first | exact rfl | assumption); omega)
    | ((with_reducible apply lm_sB); (first | exact rfl | assumption); omega)
    | ((with_reducible apply lm_wA); (first | exact rfl | assumption); omega)
    | ((with_reducible apply lm_wJ); (first | exact rfl | assumption); omega)
    | ((with_reducible apply lm_wB); (first | exact rfl | assumption); omega)
    | ((with_reducible apply lm_sAl); (first | exact rfl | assumption); omega)
    | ((with_reducible apply lm_iW); decide))
    rw [hT, lm_oo]
    refine lm_cI (lm_u157 hq hv (by omega) (by omega)) ?_
    rw [lm_orsh hlt (by omega) (by show ln_bv _ _ _ + (ln_bt _ (T + k)).toNat * 2 ^ k < _; exact Nat.lt_of_lt_of_le hlt2 (by omega)), lm_K1, lm_oo]
    exact K) d 0 (by omega) m n ⟨rfl, rfl⟩
  subst e1
  subst e2
  refine lm_cal_of (Y := lm_m77) rfl rfl (lm_e77_0 ?_)
  unfold lm_q77_0
  rw [lm_K0]
  refine h2 _ (lm_e77_6 ?_)
  unfold lm_q77_6
  refine lm_geT (by omega) (by omega) (by omega) ?_
  repeat (first
    | ((with_reducible apply lm_sI); exact rfl)
    | ((with_reducible apply lm_sR); exact rfl)
    | ((with_reducible apply lm_sS); exact rfl; exact rfl)
    | ((with_reducible apply lm_sL); exact rfl)
    | ((with_reducible apply lm_sP); exact rfl; exact rfl)
    | ((with_reducible apply lm_sPL); exact rfl; exact rfl)
    | ((with_reducible apply lm_sAA); exact rfl; exact rfl)
    | ((with_reducible apply lm_sA); (first | exact rfl | assumption); omega)
    | ((with_reducible apply lm_sJ); (first | exact rfl | assumption); omega)
    | ((with_reducible apply lm_sB); (first | exact rfl | assumption); omega)
    | ((with_reducible apply lm_wA); (first | exact rfl | assumption); omega)
    | ((with_reducible apply lm_wJ); (first | exact rfl | assumption); omega)
    | ((with_reducible apply lm_wB); (first | exact rfl | assumption); omega)
    | ((with_reducible apply lm_sAl); (first | exact rfl | assumption); omega)
    | ((with_reducible apply lm_iW); decide))
  rw [hT, lm_oo]
  rfl
/-! putBits -/
def lm_PB (m : lm_MI) (q a T : Nat) (S : Nat → Bool) : Prop := (∀ t, t < T → ln_bt (fun j => m q (a + j)) t = S t) ∧ ∀ t, T ≤ t → t / 8 = T / 8 → T % 8 ≠ 0 → ln_bt (fun j => m q (a + j)) t = false
theorem lm_yb_g (u : Int32) {s : Nat} (hs : s < 8) : (lm_yb u).testBit s = u.toBitVec.getLsbD s := by
  unfold lm_yb
  rw [show (256 : Nat) = 2 ^ 8 from rfl, Nat.testBit_mod_two_pow, decide_eq_true hs, Bool.true_and, BitVec.testBit_toNat]
theorem lm_orb (u : Int32) (c : Bool) {r s : Nat} (hr : r < 8) (hs : s < 8) : (lm_yb (lm_b8 (lm_b8 u ||| lm_b8 (Int32.ofNat c.toNat <<< (Int32.ofNat r &&& 31))))).testBit s = ((lm_yb u).testBit s || (c && decide (s = r))) := by
  rw [lm_yb_b8, lm_yb_g _ hs, Int32.toBitVec_or, BitVec.getLsbD_or, lm_yb_tb _ hs, lm_yb_tb _ hs, lm_yb_g (Int32.ofNat c.toNat <<< (Int32.ofNat r &&& 31)) hs, lm_tsl _ (by omega), BitVec.getLsbD_shiftLeft]
  have e : ∀ c : Bool, ∀ i, i < 8 → (Int32.ofNat c.toNat).toBitVec.getLsbD i = (c && decide (i = 0)) := by decide
  rw [e c (s - r) (by omega)]
  by_cases h : s < r
  · simp only [h, decide_true, Bool.not_true, Bool.and_false, Bool.false_and, show ¬ s = r by omega, decide_false]
  · by_cases h2 : s = r
    · subst h2
      simp [show s < 32 by omega]
    · simp only [show ¬ s - r = 0 by omega, h2, decide_false, Bool.and_false]
theorem lm_PB_step {m1 : lm_MI} {T : Nat} {S : Nat → Bool} {c : Bool} {w : Int32} (h : lm_PB m q a T S) (hw : (T % 8 = 0 → lm_yb w = 0) ∧ (T % 8 ≠ 0 → w = m q (a + T / 8))) (e1 : m1 q (a + T / 8) = lm_b8 (lm_b8 w ||| lm_b8 (Int32.ofNat c.toNat <<< (Int32.ofNat (T % 8) &&& 31)))) (e2 : ∀ j, j ≠ a + T / 8 → m1 q j = m q j) (hc : S T = c) : lm_PB m1 q a (T + 1) S := by
  have key : ∀ t, t / 8 = T / 8 → ln_bt (fun j => m1 q (a + j)) t = ((if T % 8 = 0 then false else ln_bt (fun j => m q (a + j)) t) || (c && decide (t % 8 = T % 8))) := by
    intro t ht
    unfold ln_bt
    dsimp only
    rw [ht, e1, lm_orb _ _ (by omega) (by omega)]
    by_cases z : T % 8 = 0
    · rw [if_pos z, hw.1 z, Nat.zero_testBit]
    · rw [if_neg z, hw.2 z]
  refine ⟨fun t ht => ?_, fun t h1 h2 h3 => ?_⟩
  · by_cases s : t / 8 = T / 8
    · rw [key t s]
      by_cases u : t = T
      · subst u
        rw [hc, decide_eq_true rfl, Bool.and_true]
        by_cases z : t % 8 = 0
        · rw [if_pos z, Bool.false_or]
        · rw [if_neg z, h.2 t (by omega) rfl z, Bool.false_or]
      · rw [decide_eq_false (by omega), Bool.and_false, Bool.or_false, if_neg (by omega)]
        exact h.1 t (by omega)
    · show ln_bt (fun j => m1 q (a + j)) t = S t
      rw [← h.1 t (by omega)]
      unfold ln_bt
      dsimp only
      rw [e2 _ (by omega)]
  · rw [key t (by omega), decide_eq_false (by omega), Bool.and_false, Bool.or_false]
    by_cases z : T % 8 = 0
    · rw [if_pos z]
    · rw [if_neg z]
      exact h.2 t (by omega) (by omega) z
theorem lm_u74 {T : Nat} {S : Nat → Bool} {w : Int32} (hq : lm_ar q = some (1, v)) (hv : v ≤ 70000) (hq3 : q ≠ 203) (hT : m 203 24 = Int32.ofNat T) (hTv : T + d ≤ 8 * (v - a)) (hav : a ≤ v) (hd : d ≤ 20) (h : lm_PB m q a T S) (hS : ∀ k, k < d → S (T + k) = w.toBitVec.getLsbD k) : ∃ m', lm_cal sc (e + 1) 74 [.ref 203, .ref q, .int (Int32.ofNat a), .int w, .int (Int32.ofNat d)] (lm_w m n x) = some (.ok none, lm_w m' n x) ∧ lm_PB m' q a (T + d) S ∧ m' 203 24 = Int32.ofNat (T + d) ∧ (∀ r, r ≠ 203 → r ≠ q → m' r = m r) ∧ (∀ j, j ≠ 24 → m' 203 j = m 203 j) ∧ ∀ j, j < a + T / 8 ∨ a + (T + d + 7) / 8 ≤ j → m' q j = m q j := by
  obtain ⟨m', n', ⟨en, h1, h2, h3⟩, k1⟩ := lm_lp (sc := sc) (d := e) (b := d) (hs := lm_m74.2.2.2.2.1) (code := lm_reg lm_m74.2.2.2.2.2) (x := x) (fr := fun k => (3, [(0, .ref 203), (1, .ref q), (2, .int (Int32.ofNat a)), (3, .int w), (4, .int (Int32.ofNat d)), (5, .int (Int32.ofNat k))], [])) (I := fun k m' n' => n' = n ∧ lm_PB m' q a (T + k) S ∧ (∀ r, r ≠ q → m' r = m r) ∧ ∀ j, j < a + T / 8 ∨ a + (T + k + 7) / 8 ≤ j → m' q j = m q j) (fun k hk m1 n1 ⟨en, h1, h2, h3⟩ => by
    subst en
    have hT1 : m1 203 24 = Int32.ofNat T := by rw [h2 203 (fun g => hq3 g.symm)]; exact hT
    have hbt : (w >>> (Int32.ofNat k &&& 31)) &&& (Int32.ofInt 1) = Int32.ofNat (w.toBitVec.getLsbD k).toNat := lm_bit1 w (by omega)
    by_cases z : (T + k) % 8 = 0
    · refine ⟨?m', ?n', ?_, fun R K => lm_e74_3 ?run⟩
      case run =>
        unfold lm_q74_3
        refine lm_geF (by omega) (by omega) (by omega) ?_
        repeat (first
    | ((with_reducible apply lm_sI); exact rfl)
    | ((with_reducible apply lm_sR); exact rfl)
    | ((with_reducible apply lm_sS); exact rfl; exact rfl)
    | ((with_reducible apply lm_sL); exact rfl)
    | ((with_reducible apply lm_sP); exact rfl; exact rfl)
    | ((with_reducible apply lm_sPL); exact rfl; exact rfl)
    | ((with_reducible apply lm_sAA); exact rfl; exact rfl)
    | ((with_reducible apply lm_sA); (first | exact rfl | assumption); omega)
    | ((with_reducible apply lm_sJ); (first | exact rfl | assumption); omega)
    | ((with_reducible apply lm_sB); (first | exact rfl | assumption); omega)
    | ((with_reducible apply lm_wA); (first | exact rfl | assumption); omega)
    | ((with_reducible apply lm_wJ); (first | exact rfl | assumption); omega)
    | ((with_reducible apply lm_wB); (first | exact rfl | assumption); omega)
    | ((with_reducible apply lm_sAl); (first | exact rfl | assumption); omega)
    | ((with_reducible apply lm_iW); decide))
        rw [hT1, lm_K8, lm_oo, lm_orm (by omega) (by omega), z]
        refine lm_iF (fun g => g rfl) ?_
        rw [lm_od (by omega) (by omega), lm_oo]
        repeat (first
    | ((with_reducible apply lm_sI); exact rfl)
    | ((with_reducible apply lm_sR); exact rfl)
    | ((with_reducible apply lm_sS); exact rfl; exact rfl)
    | ((with_reducible apply lm_sL); exact rfl)
    | ((with_reducible apply lm_sP); exact rfl; exact rfl)
    | ((with_reducible apply lm_sPL); exact rfl; exact rfl)
    | ((with_reducible apply lm_sAA); exact rfl; exact rfl)
    | ((with_reducible apply lm_sA); (first | exact rfl | assumption); omega)
    | ((with_reducible apply lm_sJ); (first | exact rfl | assumption); omega)
    | ((with_reducible apply lm_sB); (first | exact rfl | assumption); omega)
    | ((with_reducible apply lm_wA); (first | exact rfl | assumption); omega)
    | ((with_reducible apply lm_wJ); (first | exact rfl | assumption); omega)
    | ((with_reducible apply lm_wB); (first | exact rfl | assumption); omega)
    | ((with_reducible apply lm_sAl); (first | exact rfl | assumption); omega)
    | ((with_reducible apply lm_iW); decide))
        refine lm_e74_37 ?_
        unfold lm_q74_37
        rw [lm_K8, lm_od (by omega) (by omega), lm_oo, lm_orm (by omega) (by omega), hbt, lm_K1, lm_oo]
        repeat (first
    | ((with_reducible apply lm_sI); exact rfl)
    | ((with_reducible apply lm_sR); exact rfl)
    | ((with_reducible apply lm_sS); exact rfl; exact rfl)
    | ((with_reducible apply lm_sL); exact rfl)
    | ((with_reducible apply lm_sP); exact rfl; exact rfl)
    | ((with_reducible apply lm_sPL); exact rfl; exact rfl)
    | ((with_reducible apply lm_sAA); exact rfl; exact rfl)
    | ((with_reducible apply lm_sA); (first | exact rfl | assumption); omega)
    | ((with_reducible apply lm_sJ); (first | exact rfl | assumption); omega)
    | ((with_reducible apply lm_sB); (first | exact rfl | assumption); omega)
    | ((with_reducible apply lm_wA); (first | exact rfl | assumption); omega)
    | ((with_reducible apply lm_wJ); (first | exact rfl | assumption); omega)
    | ((with_reducible apply lm_wB); (first | exact rfl | assumption); omega)
    | ((with_reducible apply lm_sAl); (first | exact rfl | assumption); omega)
    | ((with_reducible apply lm_iW); decide))
        exact K
      · refine ⟨rfl, lm_PB_step (T := T + k) (c := w.toBitVec.getLsbD k) (w := Int32.ofInt 0) h1 ⟨fun _ => by decide, fun g => absurd z g⟩ (by rw [lm_u_eq, lm_u_eq]) (fun j hj => by rw [lm_u_ne (fun g => hj g.2), lm_u_ne (fun g => hj g.2)]) (hS k hk), fun r hr => by rw [lm_u_row hr, lm_u_row hr]; exact h2 r hr, fun j hj => ?_⟩
        rw [lm_u_ne (by omega), lm_u_ne (by omega)]
        exact h3 j (by omega)
    · refine ⟨?m2', ?n2', ?_, fun R K => lm_e74_3 ?run2⟩
      case run2 =>
        unfold lm_q74_3
        refine lm_geF (by omega) (by omega) (by omega) ?_
        repeat (first
    | ((with_reducible apply lm_sI); exact rfl)
    | ((with_reducible apply lm_sR); exact rfl)
    | ((with_reducible apply lm_sS); exact rfl; exact rfl)
    | ((with_reducible apply lm_sL); exact rfl)
    | ((with_reducible apply lm_sP); exact rfl; exact rfl)
    | ((with_reducible apply lm_sPL); exact rfl; exact rfl)
    | ((with_reducible apply lm_sAA); exact rfl; exact rfl)
    | ((with_reducible apply lm_sA); (first | exact rfl | assumption); omega)
    | ((with_reducible apply lm_sJ); (first | exact rfl | assumption); omega)
    | ((with_reducible apply lm_sB); (first | exact rfl | assumption); omega)
    | ((with_reducible apply lm_wA); (first | exact rfl | assumption); omega)
    | ((with_reducible apply lm_wJ); (first | exact rfl | assumption); omega)
    | ((with_reducible apply lm_wB); (first | exact rfl | assumption); omega)
    | ((with_reducible apply lm_sAl); (first | exact rfl | assumption); omega)
    | ((with_reducible apply lm_iW); decide))
        rw [hT1, lm_K8, lm_oo, lm_orm (by omega) (by omega)]
        refine lm_iT (fun g => z ?_) ?_
        · exact (lm_eq32 (by omega) (by omega)).mp (show Int32.ofNat ((T + k) % 8) = Int32.ofNat 0 from g)
        refine lm_e74_37 ?_
        unfold lm_q74_37
        rw [lm_K8, lm_od (by omega) (by omega), lm_oo, lm_orm (by omega) (by omega), hbt, lm_K1, lm_oo]
        repeat (first
    | ((with_reducible apply lm_sI); exact rfl)
    | ((with_reducible apply lm_sR); exact rfl)
    | ((with_reducible apply lm_sS); exact rfl; exact rfl)
    | ((with_reducible apply lm_sL); exact rfl)
    | ((with_reducible apply lm_sP); exact rfl; exact rfl)
    | ((with_reducible apply lm_sPL); exact rfl; exact rfl)
    | ((with_reducible apply lm_sAA); exact rfl; exact rfl)
    | ((with_reducible apply lm_sA); (first | exact rfl | assumption); omega)
    | ((with_reducible apply lm_sJ); (first | exact rfl | assumption); omega)
    | ((with_reducible apply lm_sB); (first | exact rfl | assumption); omega)
    | ((with_reducible apply lm_wA); (first | exact rfl | assumption); omega)
    | ((with_reducible apply lm_wJ); (first | exact rfl | assumption); omega)
    | ((with_reducible apply lm_wB); (first | exact rfl | assumption); omega)
    | ((with_reducible apply lm_sAl); (first | exact rfl | assumption); omega)
    | ((with_reducible apply lm_iW); decide))
        exact K
      · refine ⟨rfl, lm_PB_step (T := T + k) (c := w.toBitVec.getLsbD k) (w := m1 q (a + (T + k) / 8)) h1 ⟨fun g => absurd g z, fun _ => rfl⟩ (by rw [lm_u_eq]) (fun j hj => lm_u_ne (fun g => hj g.2)) (hS k hk), fun r hr => (lm_u_row hr).trans (h2 r hr), fun j hj => ?_⟩
        rw [lm_u_ne (by omega)]
        exact h3 j (by omega)) d 0 (by omega) m n ⟨rfl, h, fun _ _ => rfl, fun _ _ => rfl⟩
  subst en
  have hT1 : m' 203 24 = Int32.ofNat T := by rw [h2 203 (fun g => hq3 g.symm)]; exact hT
  refine ⟨lm_u m' 203 24 (Int32.ofNat (T + d)), ?_, ?_, lm_u_eq, fun r r1 r2 => (lm_u_row r1).trans (h2 r r2), fun j hj => ?_, fun j hj => ?_⟩
  · refine lm_cal_of (Y := lm_m74) rfl rfl (lm_e74_0 ?_)
    unfold lm_q74_0
    rw [lm_K0]
    refine k1 _ (lm_e74_3 ?_)
    unfold lm_q74_3
    refine lm_geT (by omega) (by omega) (by omega) ?_
    repeat (first
    | ((with_reducible apply lm_sI); exact rfl)
    | ((with_reducible apply lm_sR); exact rfl)
    | ((with_reducible apply lm_sS); exact rfl; exact rfl)
    | ((with_reducible apply lm_sL); exact rfl)
    | ((with_reducible apply lm_sP); exact rfl; exact rfl)
    | ((with_reducible apply lm_sPL); exact rfl; exact rfl)
    | ((with_reducible apply lm_sAA); exact rfl; exact rfl)
    | ((with_reducible apply lm_sA); (first | exact rfl | assumption); omega)
    | ((with_reducible apply lm_sJ); (first | exact rfl | assumption); omega)
    | ((with_reducible apply lm_sB); (first | exact rfl | assumption); omega)
    | ((with_reducible apply lm_wA); (first | exact rfl | assumption); omega)
    | ((with_reducible apply lm_wJ); (first | exact rfl | assumption); omega)
    | ((with_reducible apply lm_wB); (first | exact rfl | assumption); omega)
    | ((with_reducible apply lm_sAl); (first | exact rfl | assumption); omega)
    | ((with_reducible apply lm_iW); decide))
    rw [hT1, lm_oo]
    rfl
  · unfold lm_PB
    rw [lm_u_row hq3]
    exact h1
  · rw [lm_u_ne (fun g => hj g.2), h2 203 (fun g => hq3 g.symm)]
  · rw [lm_u_row hq3]
    exact h3 j hj
end LMPK2
