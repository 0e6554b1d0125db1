/-! ===== SLH of the class: sizes, the chosen tree and leaf ===== -/
def lm_bnm (D : Nat → Int32) (p : Nat) : Nat → Nat
  | 0 => 0
  | c + 1 => lm_bnm D p c * 256 + lm_yb (D (p + c))
theorem lm_bnm_lt {D : Nat → Int32} {p : Nat} : ∀ c, lm_bnm D p c < 256 ^ c := by
  intro c
  induction c with
  | zero => exact Nat.zero_lt_one
  | succ c ih =>
    have h := lm_yb_lt (D (p + c))
    show lm_bnm D p c * 256 + lm_yb (D (p + c)) < 256 ^ (c + 1)
    rw [Nat.pow_succ]
    omega
theorem lm_bnm_x {D D' : Nat → Int32} {p : Nat} : ∀ c, (∀ t, t < p + c → D t = D' t) → lm_bnm D p c = lm_bnm D' p c := by
  intro c
  induction c with
  | zero => intro _; rfl
  | succ c ih =>
    intro h
    show lm_bnm D p c * 256 + lm_yb (D (p + c)) = lm_bnm D' p c * 256 + lm_yb (D' (p + c))
    rw [ih (fun t ht => h t (by omega)), h _ (by omega)]
def lm_tbs (s : Nat) : Nat := lm_sHt s - lm_sh s
/-- the tree, the leaf that are chosen -/
def lm_ctn (s : Nat) (D : Nat → Int32) : Nat := lm_bnm D (lm_fb s) (lm_tB s) % 2 ^ lm_tbs s
def lm_clf (s : Nat) (D : Nat → Int32) : Nat := lm_bnm D (lm_fb s + lm_tB s) (lm_lb s) % 2 ^ lm_sh s
theorem lm_tbs_b : ∀ s, s ≤ 11 → 54 ≤ lm_tbs s ∧ lm_tbs s ≤ 64 ∧ lm_tB s = (lm_tbs s + 7) / 8 := by decide
theorem lm_ctn_lt {s : Nat} {D : Nat → Int32} (hs : s ≤ 11) : lm_ctn s D < 18446744073709551616 := by
  have h1 := lm_tbs_b s hs
  exact Nat.lt_of_lt_of_le (Nat.mod_lt _ (Nat.two_pow_pos _)) (Nat.pow_le_pow_right (n := 2) (by decide) h1.2.1)
theorem lm_clf_lt {s : Nat} {D : Nat → Int32} (hs : s ≤ 11) : lm_clf s D < 512 := by
  have h1 := lm_spar s hs
  exact Nat.lt_of_lt_of_le (Nat.mod_lt _ (Nat.two_pow_pos _)) (Nat.pow_le_pow_right (n := 2) (by decide) h1.2.2.2.2.1)
theorem lm_slW {a b : Nat} (hb : b < 64) (ha : a < 18446744073709551616) : Int64.ofNat a <<< ((Int32.toInt64 (Int32.ofNat b)) &&& 63) = Int64.ofNat (a * 2 ^ b) := by
  apply Int64.toBitVec_inj.mp
  apply BitVec.eq_of_toNat_eq
  rw [Int64.toBitVec_shiftLeft, BitVec.shiftLeft_eq', lm_smod6 b hb, BitVec.toNat_shiftLeft, Int64.toBitVec_ofNat', Int64.toBitVec_ofNat', BitVec.toNat_ofNat, BitVec.toNat_ofNat, Nat.shiftLeft_eq, Nat.mod_eq_of_lt ha]
theorem lm_M64 (a : Nat) : Int64.ofNat a = Int64.ofNat (a % 18446744073709551616) := by
  apply Int64.toBitVec_inj.mp
  apply BitVec.eq_of_toNat_eq
  rw [Int64.toBitVec_ofNat', Int64.toBitVec_ofNat', BitVec.toNat_ofNat, BitVec.toNat_ofNat]
  exact (Nat.mod_mod _ _).symm
theorem lm_M32 (a : Nat) : Int32.ofNat a = Int32.ofNat (a % 4294967296) := by
  apply Int32.toBitVec_inj.mp
  apply BitVec.eq_of_toNat_eq
  rw [Int32.toBitVec_ofNat', Int32.toBitVec_ofNat', BitVec.toNat_ofNat, BitVec.toNat_ofNat]
  exact (Nat.mod_mod _ _).symm
theorem lm_andM {a k : Nat} (hk : k < 32) : Int32.ofNat a &&& Int32.ofNat (2 ^ k - 1) = Int32.ofNat (a % 2 ^ k) := by
  rw [lm_M32 a, lm_andm (Nat.mod_lt _ (by decide)) hk]
  have e : (4294967296 : Nat) = 2 ^ k * 2 ^ (32 - k) := by rw [← Nat.pow_add, show k + (32 - k) = 32 by omega]
  rw [Nat.mod_mod_of_dvd _ ⟨2 ^ (32 - k), e⟩]
theorem lm_orL {a c : Nat} (ha : a < 256) (hc : c * 256 + a < 18446744073709551616) : (Int64.ofNat c <<< ((Int32.toInt64 (Int32.ofNat 8)) &&& 63)) ||| Int64.ofNat a = Int64.ofNat (c * 256 + a) := by
  rw [lm_slW (by decide) (by omega)]
  apply Int64.toBitVec_inj.mp
  apply BitVec.eq_of_toNat_eq
  have key : ∀ M, c * 256 + a < M → (c * 2 ^ 8 % M ||| a % M) = (c * 256 + a) % M := fun M h => by
    clear hc
    have h1 : c * 256 < M := Nat.lt_of_le_of_lt (Nat.le_add_right _ _) h
    have h2 : a < M := Nat.lt_of_le_of_lt (Nat.le_add_left _ _) h
    have h3 : c * 2 ^ 8 < M := h1
    rw [Nat.mod_eq_of_lt h3, Nat.mod_eq_of_lt h2, Nat.mod_eq_of_lt h, ← Nat.shiftLeft_eq, ← Nat.shiftLeft_add_eq_or_of_lt (show a < 2 ^ 8 from ha), Nat.shiftLeft_eq]
  rw [Int64.toBitVec_or, BitVec.toNat_or, Int64.toBitVec_ofNat', Int64.toBitVec_ofNat', Int64.toBitVec_ofNat', BitVec.toNat_ofNat, BitVec.toNat_ofNat, BitVec.toNat_ofNat]
  exact key _ hc
theorem lm_shsh {T k : Nat} (hT : T < 18446744073709551616) (hk1 : 1 ≤ k) (hk : k ≤ 64) : lm_uL (Int64.ofNat T <<< ((Int32.toInt64 (Int32.ofNat (64 - k))) &&& 63)) (Int32.ofNat (64 - k)) = Int64.ofNat (T % 2 ^ k) := by
  rw [lm_slW (by omega) hT, lm_M64, lm_uLn (Nat.mod_lt _ (by decide)) (by omega)]
  have e : (18446744073709551616 : Nat) = 2 ^ k * 2 ^ (64 - k) := by rw [← Nat.pow_add, show k + (64 - k) = 64 by omega]
  rw [e, Nat.mul_mod_mul_right, Nat.mul_div_cancel _ (Nat.two_pow_pos _)]
def lm_lsz (s : Nat) : Nat := lm_sn s * (lm_cw s + lm_sh s)
def lm_psz (s : Nat) : Nat := lm_sn s + lm_fsz s + lm_sd s * lm_lsz s
theorem lm_psz_b : ∀ s, s ≤ 11 → lm_psz s ≤ 50000 := by decide
section LMSZ
variable {xs : List Int32} {sc : lm_H} {d s : Nat} {m m' : lm_MI} {n n' : lm_ML} {x : lm_H × Nat × Nat} {D : Nat → Int32}
theorem lm_u303 (hs : s ≤ 11) (h : lm_SF m s) : lm_cal sc (d + 1) 303 [.ref 194] (lm_w m n x) = some (.ok (some (.int (Int32.ofNat (lm_fb s)))), lm_w m n x) := by
  have h2 := lm_spar2 s hs
  refine lm_cal_of (Y := lm_m303) rfl rfl (lm_e303_0 ?_)
  unfold lm_q303_0
  rw [show Int32.ofInt 7 = Int32.ofNat 7 from rfl, show Int32.ofInt 8 = Int32.ofNat 8 from rfl]
  repeat (first
    | ((with_reducible apply lm_sI); exact rfl)
    | ((with_reducible apply lm_sR); exact rfl)
    | ((with_reducible apply lm_sS); exact rfl; exact rfl)
    | ((with_reducible apply lm_sL); exact rfl)
    | ((with_reducible apply lm_sP); exact rfl; exact rfl)
    | ((with_reducible apply lm_sPL); exact rfl; exact rfl)
    | ((with_reducible apply lm_sAA); exact rfl; exact rfl)
    | ((with_reducible apply lm_sA); (first | exact rfl | assumption); omega)
    | ((with_reducible apply lm_sJ); (first | exact rfl | assumption); omega)
    | ((with_reducible apply lm_sB); (first | exact rfl | assumption); omega)
    | ((with_reducible apply lm_wA); (first | exact rfl | assumption); omega)
    | ((with_reducible apply lm_wJ); (first | exact rfl | assumption); omega)
    | ((with_reducible apply lm_wB); (first | exact rfl | assumption); omega)
    | ((with_reducible apply lm_sAl); (first | exact rfl | assumption); omega)
    | ((with_reducible apply lm_iW); decide))
  simp only [Nat.reduceDiv, Nat.reduceMod]
  rw [h.2.2.2.2.2.1, h.2.2.2.2.1, lm_om, lm_oo, lm_od (by omega) (by decide)]
  exact rfl
theorem lm_u304 (hs : s ≤ 11) (h : lm_SF m s) : lm_cal sc (d + 1) 304 [.ref 194] (lm_w m n x) = some (.ok (some (.int (Int32.ofNat (lm_tB s)))), lm_w m n x) := by
  have h2 := lm_tbs_b s hs
  unfold lm_tbs at h2
  refine lm_cal_of (Y := lm_m304) rfl rfl (lm_e304_0 ?_)
  unfold lm_q304_0
  rw [show Int32.ofInt 7 = Int32.ofNat 7 from rfl, show Int32.ofInt 8 = Int32.ofNat 8 from rfl]
  repeat (first
    | ((with_reducible apply lm_sI); exact rfl)
    | ((with_reducible apply lm_sR); exact rfl)
    | ((with_reducible apply lm_sS); exact rfl; exact rfl)
    | ((with_reducible apply lm_sL); exact rfl)
    | ((with_reducible apply lm_sP); exact rfl; exact rfl)
    | ((with_reducible apply lm_sPL); exact rfl; exact rfl)
    | ((with_reducible apply lm_sAA); exact rfl; exact rfl)
    | ((with_reducible apply lm_sA); (first | exact rfl | assumption); omega)
    | ((with_reducible apply lm_sJ); (first | exact rfl | assumption); omega)
    | ((with_reducible apply lm_sB); (first | exact rfl | assumption); omega)
    | ((with_reducible apply lm_wA); (first | exact rfl | assumption); omega)
    | ((with_reducible apply lm_wJ); (first | exact rfl | assumption); omega)
    | ((with_reducible apply lm_wB); (first | exact rfl | assumption); omega)
    | ((with_reducible apply lm_sAl); (first | exact rfl | assumption); omega)
    | ((with_reducible apply lm_iW); decide))
  simp only [Nat.reduceDiv, Nat.reduceMod]
  rw [h.2.2.2.2.2.2.2.1, lm_oo, lm_od (by omega) (by decide)]
  exact rfl
theorem lm_u266 (h : lm_SF m s) : lm_cal sc (d + 1) 266 [.ref 194] (lm_w m n x) = some (.ok (some (.int (Int32.ofNat (lm_fsz s)))), lm_w m n x) := by
  refine lm_cal_of (Y := lm_m266) rfl rfl (lm_e266_0 ?_)
  unfold lm_q266_0
  rw [lm_K1]
  repeat (first
    | ((with_reducible apply lm_sI); exact rfl)
    | ((with_reducible apply lm_sR); exact rfl)
    | ((with_reducible apply lm_sS); exact rfl; exact rfl)
    | ((with_reducible apply lm_sL); exact rfl)
    | ((with_reducible apply lm_sP); exact rfl; exact rfl)
    | ((with_reducible apply lm_sPL); exact rfl; exact rfl)
    | ((with_reducible apply lm_sAA); exact rfl; exact rfl)
    | ((with_reducible apply lm_sA); (first | exact rfl | assumption); omega)
    | ((with_reducible apply lm_sJ); (first | exact rfl | assumption); omega)
    | ((with_reducible apply lm_sB); (first | exact rfl | assumption); omega)
    | ((with_reducible apply lm_wA); (first | exact rfl | assumption); omega)
    | ((with_reducible apply lm_wJ); (first | exact rfl | assumption); omega)
    | ((with_reducible apply lm_wB); (first | exact rfl | assumption); omega)
    | ((with_reducible apply lm_sAl); (first | exact rfl | assumption); omega)
    | ((with_reducible apply lm_iW); decide))
  simp only [Nat.reduceDiv, Nat.reduceMod]
  rw [h.2.1, h.2.2.2.2.2.1, h.2.2.2.2.1, lm_om, lm_oo, lm_om, Nat.mul_comm (lm_sn s) (ln_sT s), Nat.mul_assoc]
  exact rfl
theorem lm_u269 (h : lm_SF m s) : lm_cal sc (d + 1) 269 [.ref 194] (lm_w m n x) = some (.ok (some (.int (Int32.ofNat (lm_lsz s)))), lm_w m n x) := by
  refine lm_cal_of (Y := lm_m269) rfl rfl (lm_e269_0 ?_)
  unfold lm_q269_0
  repeat (first
    | ((with_reducible apply lm_sI); exact rfl)
    | ((with_reducible apply lm_sR); exact rfl)
    | ((with_reducible apply lm_sS); exact rfl; exact rfl)
    | ((with_reducible apply lm_sL); exact rfl)
    | ((with_reducible apply lm_sP); exact rfl; exact rfl)
    | ((with_reducible apply lm_sPL); exact rfl; exact rfl)
    | ((with_reducible apply lm_sAA); exact rfl; exact rfl)
    | ((with_reducible apply lm_sA); (first | exact rfl | assumption); omega)
    | ((with_reducible apply lm_sJ); (first | exact rfl | assumption); omega)
    | ((with_reducible apply lm_sB); (first | exact rfl | assumption); omega)
    | ((with_reducible apply lm_wA); (first | exact rfl | assumption); omega)
    | ((with_reducible apply lm_wJ); (first | exact rfl | assumption); omega)
    | ((with_reducible apply lm_wB); (first | exact rfl | assumption); omega)
    | ((with_reducible apply lm_sAl); (first | exact rfl | assumption); omega)
    | ((with_reducible apply lm_iW); decide))
  simp only [Nat.reduceDiv, Nat.reduceMod]
  rw [h.2.1, h.2.2.2.2.2.2.1, h.2.2.2.1, lm_oo, lm_om]
  exact rfl
theorem lm_u184 (h : lm_SF m s) : lm_cal sc (d + 2) 184 [.ref 194] (lm_w m n x) = some (.ok (some (.int (Int32.ofNat (lm_psz s)))), lm_w m n x) := by
  refine lm_cal_of (Y := lm_m184) rfl rfl (lm_e184_0 ?_)
  unfold lm_q184_0
  repeat (first
    | ((with_reducible apply lm_sI); exact rfl)
    | ((with_reducible apply lm_sR); exact rfl)
    | ((with_reducible apply lm_sS); exact rfl; exact rfl)
    | ((with_reducible apply lm_sL); exact rfl)
    | ((with_reducible apply lm_sP); exact rfl; exact rfl)
    | ((with_reducible apply lm_sPL); exact rfl; exact rfl)
    | ((with_reducible apply lm_sAA); exact rfl; exact rfl)
    | ((with_reducible apply lm_sA); (first | exact rfl | assumption); omega)
    | ((with_reducible apply lm_sJ); (first | exact rfl | assumption); omega)
    | ((with_reducible apply lm_sB); (first | exact rfl | assumption); omega)
    | ((with_reducible apply lm_wA); (first | exact rfl | assumption); omega)
    | ((with_reducible apply lm_wJ); (first | exact rfl | assumption); omega)
    | ((with_reducible apply lm_wB); (first | exact rfl | assumption); omega)
    | ((with_reducible apply lm_sAl); (first | exact rfl | assumption); omega)
    | ((with_reducible apply lm_iW); decide))
  refine lm_cI (lm_u266 (d := d) h) ?_
  repeat (first
    | ((with_reducible apply lm_sI); exact rfl)
    | ((with_reducible apply lm_sR); exact rfl)
    | ((with_reducible apply lm_sS); exact rfl; exact rfl)
    | ((with_reducible apply lm_sL); exact rfl)
    | ((with_reducible apply lm_sP); exact rfl; exact rfl)
    | ((with_reducible apply lm_sPL); exact rfl; exact rfl)
    | ((with_reducible apply lm_sAA); exact rfl; exact rfl)
    | ((with_reducible apply lm_sA); (first | exact rfl | assumption); omega)
    | ((with_reducible apply lm_sJ); (first | exact rfl | assumption); omega)
    | ((with_reducible apply lm_sB); (first | exact rfl | assumption); omega)
    | ((with_reducible apply lm_wA); (first | exact rfl | assumption); omega)
    | ((with_reducible apply lm_wJ); (first | exact rfl | assumption); omega)
    | ((with_reducible apply lm_wB); (first | exact rfl | assumption); omega)
    | ((with_reducible apply lm_sAl); (first | exact rfl | assumption); omega)
    | ((with_reducible apply lm_iW); decide))
  refine lm_cI (lm_u269 (d := d) h) ?_
  simp only [Nat.reduceDiv, Nat.reduceMod]
  rw [h.2.1, h.2.2.1, lm_oo, lm_om, lm_oo]
  exact rfl
theorem lm_u260 (hs : s ≤ 11) (h : lm_SF m s) (hD : ∀ t, t < lm_fb s + lm_tB s + lm_lb s → lm_b8 (m 201 t) = D t) : lm_cal sc (d + 2) 260 [.ref 194] (lm_w m n x) = some (.ok (some (.int (Int32.ofNat (lm_clf s D)))), lm_w m n x) := by
  have hpar := lm_spar s hs
  have h2 := lm_spar2 s hs
  have lp : ∀ k c, c + k = lm_lb s → lm_rn sc (d + 1) lm_m260.2.2.2.2.1 (lm_reg lm_m260.2.2.2.2.2) (14, [(0, .ref 194), (1, .int (Int32.ofNat (lm_fb s + lm_tB s))), (2, .int (Int32.ofNat (lm_bnm D (lm_fb s + lm_tB s) c))), (3, .int (Int32.ofNat c))], []) (lm_w m n x) = some (.ok (some (.int (Int32.ofNat (lm_clf s D)))), lm_w m n x) := by
    intro k
    induction k with
    | zero =>
      intro c hc
      have hc : c = lm_lb s := hc
      subst hc
      refine lm_e260_14 ?_
      unfold lm_q260_14
      repeat (first
    | ((with_reducible apply lm_sI); exact rfl)
    | ((with_reducible apply lm_sR); exact rfl)
    | ((with_reducible apply lm_sS); exact rfl; exact rfl)
    | ((with_reducible apply lm_sL); exact rfl)
    | ((with_reducible apply lm_sP); exact rfl; exact rfl)
    | ((with_reducible apply lm_sPL); exact rfl; exact rfl)
    | ((with_reducible apply lm_sAA); exact rfl; exact rfl)
    | ((with_reducible apply lm_sA); (first | exact rfl | assumption); omega)
    | ((with_reducible apply lm_sJ); (first | exact rfl | assumption); omega)
    | ((with_reducible apply lm_sB); (first | exact rfl | assumption); omega)
    | ((with_reducible apply lm_wA); (first | exact rfl | assumption); omega)
    | ((with_reducible apply lm_wJ); (first | exact rfl | assumption); omega)
    | ((with_reducible apply lm_wB); (first | exact rfl | assumption); omega)
    | ((with_reducible apply lm_sAl); (first | exact rfl | assumption); omega)
    | ((with_reducible apply lm_iW); decide))
      simp only [Nat.reduceDiv, Nat.reduceMod]
      rw [h.2.2.2.1, show Int32.ofInt 7 = Int32.ofNat 7 from rfl, show Int32.ofInt 8 = Int32.ofNat 8 from rfl, lm_oo, lm_od (by omega) (by decide)]
      refine lm_geT (by omega) (by omega) (Nat.le_refl _) ?_
      repeat (first
    | ((with_reducible apply lm_sI); exact rfl)
    | ((with_reducible apply lm_sR); exact rfl)
    | ((with_reducible apply lm_sS); exact rfl; exact rfl)
    | ((with_reducible apply lm_sL); exact rfl)
    | ((with_reducible apply lm_sP); exact rfl; exact rfl)
    | ((with_reducible apply lm_sPL); exact rfl; exact rfl)
    | ((with_reducible apply lm_sAA); exact rfl; exact rfl)
    | ((with_reducible apply lm_sA); (first | exact rfl | assumption); omega)
    | ((with_reducible apply lm_sJ); (first | exact rfl | assumption); omega)
    | ((with_reducible apply lm_sB); (first | exact rfl | assumption); omega)
    | ((with_reducible apply lm_wA); (first | exact rfl | assumption); omega)
    | ((with_reducible apply lm_wJ); (first | exact rfl | assumption); omega)
    | ((with_reducible apply lm_wB); (first | exact rfl | assumption); omega)
    | ((with_reducible apply lm_sAl); (first | exact rfl | assumption); omega)
    | ((with_reducible apply lm_iW); decide))
      simp only [Nat.reduceDiv, Nat.reduceMod]
      rw [h.2.2.2.1, lm_msk (by omega), lm_andM (by omega)]
      exact rfl
    | succ k ih =>
      intro c hc
      have hb := lm_bnm_lt (D := D) (p := lm_fb s + lm_tB s) c
      have hb2 : 256 ^ c ≤ 256 ^ 1 := Nat.pow_le_pow_right (by decide) (by omega)
      have hy := lm_yb_lt (m 201 (lm_fb s + lm_tB s + c))
      have ey : lm_yb (m 201 (lm_fb s + lm_tB s + c)) = lm_yb (D (lm_fb s + lm_tB s + c)) := by rw [← hD _ (by omega), lm_yb_b8]
      refine lm_e260_14 ?_
      unfold lm_q260_14
      repeat (first
    | ((with_reducible apply lm_sI); exact rfl)
    | ((with_reducible apply lm_sR); exact rfl)
    | ((with_reducible apply lm_sS); exact rfl; exact rfl)
    | ((with_reducible apply lm_sL); exact rfl)
    | ((with_reducible apply lm_sP); exact rfl; exact rfl)
    | ((with_reducible apply lm_sPL); exact rfl; exact rfl)
    | ((with_reducible apply lm_sAA); exact rfl; exact rfl)
    | ((with_reducible apply lm_sA); (first | exact rfl | assumption); omega)
    | ((with_reducible apply lm_sJ); (first | exact rfl | assumption); omega)
    | ((with_reducible apply lm_sB); (first | exact rfl | assumption); omega)
    | ((with_reducible apply lm_wA); (first | exact rfl | assumption); omega)
    | ((with_reducible apply lm_wJ); (first | exact rfl | assumption); omega)
    | ((with_reducible apply lm_wB); (first | exact rfl | assumption); omega)
    | ((with_reducible apply lm_sAl); (first | exact rfl | assumption); omega)
    | ((with_reducible apply lm_iW); decide))
      simp only [Nat.reduceDiv, Nat.reduceMod]
      rw [h.2.2.2.1, show Int32.ofInt 7 = Int32.ofNat 7 from rfl, show Int32.ofInt 8 = Int32.ofNat 8 from rfl, lm_K1, lm_oo, lm_oo, lm_oo, lm_od (by omega) (by decide)]
      refine lm_geF (by omega) (by unfold lm_lb at hc; omega) (by unfold lm_lb at hc; omega) ?_
      repeat (first
    | ((with_reducible apply lm_sI); exact rfl)
    | ((with_reducible apply lm_sR); exact rfl)
    | ((with_reducible apply lm_sS); exact rfl; exact rfl)
    | ((with_reducible apply lm_sL); exact rfl)
    | ((with_reducible apply lm_sP); exact rfl; exact rfl)
    | ((with_reducible apply lm_sPL); exact rfl; exact rfl)
    | ((with_reducible apply lm_sAA); exact rfl; exact rfl)
    | ((with_reducible apply lm_sA); (first | exact rfl | assumption); omega)
    | ((with_reducible apply lm_sJ); (first | exact rfl | assumption); omega)
    | ((with_reducible apply lm_sB); (first | exact rfl | assumption); omega)
    | ((with_reducible apply lm_wA); (first | exact rfl | assumption); omega)
    | ((with_reducible apply lm_wJ); (first | exact rfl | assumption); omega)
    | ((with_reducible apply lm_wB); (first | exact rfl | assumption); omega)
    | ((with_reducible apply lm_sAl); (first | exact rfl | assumption); omega)
    | ((with_reducible apply lm_iW); decide))
      rw [lm_b8u, Int32.or_comm, lm_orsh (b := 8) hy (by decide) (by omega), ey, show lm_yb (D (lm_fb s + lm_tB s + c)) + lm_bnm D (lm_fb s + lm_tB s) c * 2 ^ 8 = lm_bnm D (lm_fb s + lm_tB s) (c + 1) from Nat.add_comm ..]
      exact ih (c + 1) (by omega)
  have l0 := lp (lm_lb s) 0 (Nat.zero_add _)
  refine lm_cal_of (Y := lm_m260) rfl rfl (lm_e260_0 ?_)
  unfold lm_q260_0
  rw [lm_K0]
  repeat (first
    | ((with_reducible apply lm_sI); exact rfl)
    | ((with_reducible apply lm_sR); exact rfl)
    | ((with_reducible apply lm_sS); exact rfl; exact rfl)
    | ((with_reducible apply lm_sL); exact rfl)
    | ((with_reducible apply lm_sP); exact rfl; exact rfl)
    | ((with_reducible apply lm_sPL); exact rfl; exact rfl)
    | ((with_reducible apply lm_sAA); exact rfl; exact rfl)
    | ((with_reducible apply lm_sA); (first | exact rfl | assumption); omega)
    | ((with_reducible apply lm_sJ); (first | exact rfl | assumption); omega)
    | ((with_reducible apply lm_sB); (first | exact rfl | assumption); omega)
    | ((with_reducible apply lm_wA); (first | exact rfl | assumption); omega)
    | ((with_reducible apply lm_wJ); (first | exact rfl | assumption); omega)
    | ((with_reducible apply lm_wB); (first | exact rfl | assumption); omega)
    | ((with_reducible apply lm_sAl); (first | exact rfl | assumption); omega)
    | ((with_reducible apply lm_iW); decide))
  refine lm_cI (lm_u303 (d := d) hs h) ?_
  repeat (first
    | ((with_reducible apply lm_sI); exact rfl)
    | ((with_reducible apply lm_sR); exact rfl)
    | ((with_reducible apply lm_sS); exact rfl; exact rfl)
    | ((with_reducible apply lm_sL); exact rfl)
    | ((with_reducible apply lm_sP); exact rfl; exact rfl)
    | ((with_reducible apply lm_sPL); exact rfl; exact rfl)
    | ((with_reducible apply lm_sAA); exact rfl; exact rfl)
    | ((with_reducible apply lm_sA); (first | exact rfl | assumption); omega)
    | ((with_reducible apply lm_sJ); (first | exact rfl | assumption); omega)
    | ((with_reducible apply lm_sB); (first | exact rfl | assumption); omega)
    | ((with_reducible apply lm_wA); (first | exact rfl | assumption); omega)
    | ((with_reducible apply lm_wJ); (first | exact rfl | assumption); omega)
    | ((with_reducible apply lm_wB); (first | exact rfl | assumption); omega)
    | ((with_reducible apply lm_sAl); (first | exact rfl | assumption); omega)
    | ((with_reducible apply lm_iW); decide))
  refine lm_cI (lm_u304 (d := d) hs h) ?_
  rw [lm_oo]
  exact l0
theorem lm_u261 (hs : s ≤ 11) (h : lm_SF m s) (hD : ∀ t, t < lm_fb s + lm_tB s + lm_lb s → lm_b8 (m 201 t) = D t) : lm_cal sc (d + 2) 261 [.ref 194] (lm_w m n x) = some (.ok (some (.long (Int64.ofNat (lm_ctn s D)))), lm_w m n x) := by
  have hpar := lm_spar s hs
  have h2 := lm_spar2 s hs
  have h3 := lm_tbs_b s hs
  have e10 : m 194 10 = Int32.ofNat (lm_tbs s) := h.2.2.2.2.2.2.2.1
  have lp : ∀ k c, c + k = lm_tB s → lm_rn sc (d + 1) lm_m261.2.2.2.2.1 (lm_reg lm_m261.2.2.2.2.2) (4, [(0, .ref 194), (1, .long (Int64.ofNat (lm_bnm D (lm_fb s) c))), (3, .int (Int32.ofNat c))], []) (lm_w m n x) = some (.ok (some (.long (Int64.ofNat (lm_ctn s D)))), lm_w m n x) := by
    intro k
    induction k with
    | zero =>
      intro c hc
      have hc : c = lm_tB s := hc
      subst hc
      have hb := lm_bnm_lt (D := D) (p := lm_fb s) (lm_tB s)
      have hb2 : 256 ^ lm_tB s ≤ 256 ^ 8 := Nat.pow_le_pow_right (by decide) h2.2.1
      refine lm_e261_4 ?_
      unfold lm_q261_4
      rw [show Int32.ofInt 64 = Int32.ofNat 64 from rfl]
      repeat (first
    | ((with_reducible apply lm_sI); exact rfl)
    | ((with_reducible apply lm_sR); exact rfl)
    | ((with_reducible apply lm_sS); exact rfl; exact rfl)
    | ((with_reducible apply lm_sL); exact rfl)
    | ((with_reducible apply lm_sP); exact rfl; exact rfl)
    | ((with_reducible apply lm_sPL); exact rfl; exact rfl)
    | ((with_reducible apply lm_sAA); exact rfl; exact rfl)
    | ((with_reducible apply lm_sA); (first | exact rfl | assumption); omega)
    | ((with_reducible apply lm_sJ); (first | exact rfl | assumption); omega)
    | ((with_reducible apply lm_sB); (first | exact rfl | assumption); omega)
    | ((with_reducible apply lm_wA); (first | exact rfl | assumption); omega)
    | ((with_reducible apply lm_wJ); (first | exact rfl | assumption); omega)
    | ((with_reducible apply lm_wB); (first | exact rfl | assumption); omega)
    | ((with_reducible apply lm_sAl); (first | exact rfl | assumption); omega)
    | ((with_reducible apply lm_iW); decide))
      refine lm_cI (lm_u304 (d := d) hs h) ?_
      refine lm_geT (by omega) (by omega) (Nat.le_refl _) ?_
      repeat (first
    | ((with_reducible apply lm_sI); exact rfl)
    | ((with_reducible apply lm_sR); exact rfl)
    | ((with_reducible apply lm_sS); exact rfl; exact rfl)
    | ((with_reducible apply lm_sL); exact rfl)
    | ((with_reducible apply lm_sP); exact rfl; exact rfl)
    | ((with_reducible apply lm_sPL); exact rfl; exact rfl)
    | ((with_reducible apply lm_sAA); exact rfl; exact rfl)
    | ((with_reducible apply lm_sA); (first | exact rfl | assumption); omega)
    | ((with_reducible apply lm_sJ); (first | exact rfl | assumption); omega)
    | ((with_reducible apply lm_sB); (first | exact rfl | assumption); omega)
    | ((with_reducible apply lm_wA); (first | exact rfl | assumption); omega)
    | ((with_reducible apply lm_wJ); (first | exact rfl | assumption); omega)
    | ((with_reducible apply lm_wB); (first | exact rfl | assumption); omega)
    | ((with_reducible apply lm_sAl); (first | exact rfl | assumption); omega)
    | ((with_reducible apply lm_iW); decide))
      simp only [Nat.reduceDiv, Nat.reduceMod]
      rw [e10, lm_osu (by omega), lm_shsh (Nat.lt_of_lt_of_le hb hb2) (by omega) (by omega)]
      exact rfl
    | succ k ih =>
      intro c hc
      have hb := lm_bnm_lt (D := D) (p := lm_fb s) c
      have hb2 : 256 ^ c ≤ 256 ^ 7 := Nat.pow_le_pow_right (by decide) (by omega)
      have hb3 : lm_bnm D (lm_fb s) c < 72057594037927936 := Nat.lt_of_lt_of_le hb hb2
      have hy := lm_yb_lt (m 201 (lm_fb s + c))
      have ey : lm_yb (m 201 (lm_fb s + c)) = lm_yb (D (lm_fb s + c)) := by rw [← hD _ (by omega), lm_yb_b8]
      refine lm_e261_4 ?_
      unfold lm_q261_4
      rw [show Int32.ofInt 8 = Int32.ofNat 8 from rfl, lm_K1, lm_oo]
      repeat (first
    | ((with_reducible apply lm_sI); exact rfl)
    | ((with_reducible apply lm_sR); exact rfl)
    | ((with_reducible apply lm_sS); exact rfl; exact rfl)
    | ((with_reducible apply lm_sL); exact rfl)
    | ((with_reducible apply lm_sP); exact rfl; exact rfl)
    | ((with_reducible apply lm_sPL); exact rfl; exact rfl)
    | ((with_reducible apply lm_sAA); exact rfl; exact rfl)
    | ((with_reducible apply lm_sA); (first | exact rfl | assumption); omega)
    | ((with_reducible apply lm_sJ); (first | exact rfl | assumption); omega)
    | ((with_reducible apply lm_sB); (first | exact rfl | assumption); omega)
    | ((with_reducible apply lm_wA); (first | exact rfl | assumption); omega)
    | ((with_reducible apply lm_wJ); (first | exact rfl | assumption); omega)
    | ((with_reducible apply lm_wB); (first | exact rfl | assumption); omega)
    | ((with_reducible apply lm_sAl); (first | exact rfl | assumption); omega)
    | ((with_reducible apply lm_iW); decide))
      refine lm_cI (lm_u304 (d := d) hs h) ?_
      refine lm_geF (by omega) (by omega) (by omega) ?_
      repeat (first
    | ((with_reducible apply lm_sI); exact rfl)
    | ((with_reducible apply lm_sR); exact rfl)
    | ((with_reducible apply lm_sS); exact rfl; exact rfl)
    | ((with_reducible apply lm_sL); exact rfl)
    | ((with_reducible apply lm_sP); exact rfl; exact rfl)
    | ((with_reducible apply lm_sPL); exact rfl; exact rfl)
    | ((with_reducible apply lm_sAA); exact rfl; exact rfl)
    | ((with_reducible apply lm_sA); (first | exact rfl | assumption); omega)
    | ((with_reducible apply lm_sJ); (first | exact rfl | assumption); omega)
    | ((with_reducible apply lm_sB); (first | exact rfl | assumption); omega)
    | ((with_reducible apply lm_wA); (first | exact rfl | assumption); omega)
    | ((with_reducible apply lm_wJ); (first | exact rfl | assumption); omega)
    | ((with_reducible apply lm_wB); (first | exact rfl | assumption); omega)
    | ((with_reducible apply lm_sAl); (first | exact rfl | assumption); omega)
    | ((with_reducible apply lm_iW); decide))
      refine lm_cI (lm_u303 (d := d) hs h) ?_
      rw [lm_oo]
      repeat (first
    | ((with_reducible apply lm_sI); exact rfl)
    | ((with_reducible apply lm_sR); exact rfl)
    | ((with_reducible apply lm_sS); exact rfl; exact rfl)
    | ((with_reducible apply lm_sL); exact rfl)
    | ((with_reducible apply lm_sP); exact rfl; exact rfl)
    | ((with_reducible apply lm_sPL); exact rfl; exact rfl)
    | ((with_reducible apply lm_sAA); exact rfl; exact rfl)
    | ((with_reducible apply lm_sA); (first | exact rfl | assumption); omega)
    | ((with_reducible apply lm_sJ); (first | exact rfl | assumption); omega)
    | ((with_reducible apply lm_sB); (first | exact rfl | assumption); omega)
    | ((with_reducible apply lm_wA); (first | exact rfl | assumption); omega)
    | ((with_reducible apply lm_wJ); (first | exact rfl | assumption); omega)
    | ((with_reducible apply lm_wB); (first | exact rfl | assumption); omega)
    | ((with_reducible apply lm_sAl); (first | exact rfl | assumption); omega)
    | ((with_reducible apply lm_iW); decide))
      rw [lm_b8u, lm_i2l (a := lm_yb (m 201 (lm_fb s + c))) (by omega), lm_orL hy (by omega), ey]
      exact ih (c + 1) (by omega)
  have l0 := lp (lm_tB s) 0 (Nat.zero_add _)
  refine lm_cal_of (Y := lm_m261) rfl rfl (lm_e261_0 ?_)
  unfold lm_q261_0
  rw [lm_K0]
  exact l0
end LMSZ
