/-! ===== finish of the class's SHA-2 ===== -/
theorem lm_tI8 (v : Int32) : v.toInt8.toBitVec = v.toBitVec.setWidth 8 := BitVec.signExtend_eq_setWidth_of_le _ (by decide)
theorem lm_tI32 (v : Int64) : (Int64.toInt32 v).toBitVec = v.toBitVec.setWidth 32 := BitVec.signExtend_eq_setWidth_of_le _ (by decide)
theorem lm_b8_of {v w : Int32} (h : v.toBitVec.setWidth 8 = w.toBitVec.setWidth 8) : lm_b8 v = lm_b8 w := by
  show (v.toInt8).toInt32 = (w.toInt8).toInt32
  have : v.toInt8 = w.toInt8 := Int8.toBitVec_inj.mp (by rw [lm_tI8, lm_tI8]; exact h)
  rw [this]
theorem lm_bt {s c e : Nat} (X : BitVec 64) (h : s = c + e) (hc : e + 8 ≤ 32) : (BitVec.setWidth 32 (X >>> s)).setWidth 8 = ((BitVec.setWidth 32 (X >>> c)).sshiftRight e).setWidth 8 := by
  refine BitVec.eq_of_getLsbD_eq fun i hi => ?_
  rw [BitVec.getLsbD_setWidth, BitVec.getLsbD_setWidth, BitVec.getLsbD_setWidth, BitVec.getLsbD_sshiftRight, BitVec.getLsbD_setWidth, BitVec.getLsbD_ushiftRight, BitVec.getLsbD_ushiftRight, h]
  rw [show c + e + i = c + (e + i) by omega]
  have h1 : e + i < 32 := by omega
  have h2 : ¬ 32 ≤ i := by omega
  have h3 : i < 32 := by omega
  simp [h1, h2, h3]
theorem lm_bu {s : Nat} (X : BitVec 64) (hs : s + 8 ≤ 32) : ((BitVec.setWidth 32 X) >>> s).setWidth 8 = (BitVec.setWidth 32 (X >>> s)).setWidth 8 := by
  refine BitVec.eq_of_getLsbD_eq fun i hi => ?_
  rw [BitVec.getLsbD_setWidth, BitVec.getLsbD_setWidth, BitVec.getLsbD_setWidth, BitVec.getLsbD_ushiftRight, BitVec.getLsbD_setWidth, BitVec.getLsbD_ushiftRight]
  have h1 : s + i < 32 := by omega
  have h3 : i < 32 := by omega
  simp [h1, h3]
theorem lm_gl7 (b : Int64) : lm_b8 (lm_b8 ((Int64.toInt32 (lm_uL b (Int32.ofInt 32))) >>> 24)) = lm_b8 (lm_gl b 7) := by
  refine (lm_b8b).trans (lm_b8_of ?_)
  show BitVec.setWidth 8 ((Int64.toInt32 (lm_uL b (Int32.ofInt 32))).toBitVec.sshiftRight 24) = BitVec.setWidth 8 (Int64.toInt32 (lm_uL b (Int32.ofNat (8 * 7)))).toBitVec
  rw [lm_tI32, lm_tI32]
  exact (lm_bt (s := 56) (c := 32) (e := 24) b.toBitVec rfl (by decide)).symm
theorem lm_gl6 (b : Int64) : lm_b8 (lm_b8 ((Int64.toInt32 (lm_uL b (Int32.ofInt 32))) >>> 16)) = lm_b8 (lm_gl b 6) := by
  refine (lm_b8b).trans (lm_b8_of ?_)
  show BitVec.setWidth 8 ((Int64.toInt32 (lm_uL b (Int32.ofInt 32))).toBitVec.sshiftRight 16) = BitVec.setWidth 8 (Int64.toInt32 (lm_uL b (Int32.ofNat (8 * 6)))).toBitVec
  rw [lm_tI32, lm_tI32]
  exact (lm_bt (s := 48) (c := 32) (e := 16) b.toBitVec rfl (by decide)).symm
theorem lm_gl5 (b : Int64) : lm_b8 (lm_b8 ((Int64.toInt32 (lm_uL b (Int32.ofInt 32))) >>> 8)) = lm_b8 (lm_gl b 5) := by
  refine (lm_b8b).trans (lm_b8_of ?_)
  show BitVec.setWidth 8 ((Int64.toInt32 (lm_uL b (Int32.ofInt 32))).toBitVec.sshiftRight 8) = BitVec.setWidth 8 (Int64.toInt32 (lm_uL b (Int32.ofNat (8 * 5)))).toBitVec
  rw [lm_tI32, lm_tI32]
  exact (lm_bt (s := 40) (c := 32) (e := 8) b.toBitVec rfl (by decide)).symm
theorem lm_gl4 (b : Int64) : lm_b8 (lm_b8 (Int64.toInt32 (lm_uL b (Int32.ofInt 32)))) = lm_b8 (lm_gl b 4) := (lm_b8b).trans rfl
theorem lm_gl3 (b : Int64) : lm_b8 (lm_b8 ((Int64.toInt32 b) >>> 24)) = lm_b8 (lm_gl b 3) := by
  refine (lm_b8b).trans (lm_b8_of ?_)
  show BitVec.setWidth 8 ((Int64.toInt32 (b)).toBitVec.sshiftRight 24) = BitVec.setWidth 8 (Int64.toInt32 (lm_uL b (Int32.ofNat (8 * 3)))).toBitVec
  rw [lm_tI32, lm_tI32]
  exact (lm_bt (s := 24) (c := 0) (e := 24) b.toBitVec rfl (by decide)).symm
theorem lm_gl2 (b : Int64) : lm_b8 (lm_b8 ((Int64.toInt32 b) >>> 16)) = lm_b8 (lm_gl b 2) := by
  refine (lm_b8b).trans (lm_b8_of ?_)
  show BitVec.setWidth 8 ((Int64.toInt32 (b)).toBitVec.sshiftRight 16) = BitVec.setWidth 8 (Int64.toInt32 (lm_uL b (Int32.ofNat (8 * 2)))).toBitVec
  rw [lm_tI32, lm_tI32]
  exact (lm_bt (s := 16) (c := 0) (e := 16) b.toBitVec rfl (by decide)).symm
theorem lm_gl1 (b : Int64) : lm_b8 (lm_b8 ((Int64.toInt32 b) >>> 8)) = lm_b8 (lm_gl b 1) := by
  refine (lm_b8b).trans (lm_b8_of ?_)
  show BitVec.setWidth 8 ((Int64.toInt32 (b)).toBitVec.sshiftRight 8) = BitVec.setWidth 8 (Int64.toInt32 (lm_uL b (Int32.ofNat (8 * 1)))).toBitVec
  rw [lm_tI32, lm_tI32]
  exact (lm_bt (s := 8) (c := 0) (e := 8) b.toBitVec rfl (by decide)).symm
theorem lm_gl0 (b : Int64) : lm_b8 (lm_b8 (Int64.toInt32 b)) = lm_b8 (lm_gl b 0) := (lm_b8b).trans rfl
theorem lm_out2 (S : Int64) {s : Nat} (hs : s = 0 ∨ s = 8 ∨ s = 16 ∨ s = 24) : lm_b8 (lm_us (Int64.toInt32 S) (Int32.ofNat s)) = lm_b8 (Int64.toInt32 (lm_uL S (Int32.ofNat s))) := by
  rcases hs with h | h | h | h
  · subst h; refine lm_b8_of ?_; show BitVec.setWidth 8 ((Int64.toInt32 S).toBitVec >>> 0) = BitVec.setWidth 8 (Int64.toInt32 (lm_uL S (Int32.ofNat 0))).toBitVec; rw [lm_tI32, lm_tI32]; exact lm_bu (s := 0) S.toBitVec (by decide)
  · subst h; refine lm_b8_of ?_; show BitVec.setWidth 8 ((Int64.toInt32 S).toBitVec >>> 8) = BitVec.setWidth 8 (Int64.toInt32 (lm_uL S (Int32.ofNat 8))).toBitVec; rw [lm_tI32, lm_tI32]; exact lm_bu (s := 8) S.toBitVec (by decide)
  · subst h; refine lm_b8_of ?_; show BitVec.setWidth 8 ((Int64.toInt32 S).toBitVec >>> 16) = BitVec.setWidth 8 (Int64.toInt32 (lm_uL S (Int32.ofNat 16))).toBitVec; rw [lm_tI32, lm_tI32]; exact lm_bu (s := 16) S.toBitVec (by decide)
  · subst h; refine lm_b8_of ?_; show BitVec.setWidth 8 ((Int64.toInt32 S).toBitVec >>> 24) = BitVec.setWidth 8 (Int64.toInt32 (lm_uL S (Int32.ofNat 24))).toBitVec; rw [lm_tI32, lm_tI32]; exact lm_bu (s := 24) S.toBitVec (by decide)

/-- the bytes that come out -/
def lm_o2 (S : Nat → Int64) (i : Nat) : Int32 := lm_b8 (Int64.toInt32 (lm_uL (S (i / 4)) (Int32.ofNat (24 - 8 * (i % 4)))))
def lm_o5 (S : Nat → Int64) (i : Nat) : Int32 := lm_b8 (Int64.toInt32 (lm_uL (S (i / 8)) (Int32.ofNat (56 - 8 * (i % 8)))))
theorem lm_sh2 : ∀ i, i < 64 → (Int32.ofNat i) >>> ((Int32.ofInt 2) &&& 31) = Int32.ofNat (i / 4) := by decide
theorem lm_sh3 : ∀ i, i < 256 → (Int32.ofNat i) >>> ((Int32.ofInt 3) &&& 31) = Int32.ofNat (i / 8) := by decide +kernel
theorem lm_an3 : ∀ i, i < 64 → (Int32.ofInt 24) - (((Int32.ofNat i) &&& (Int32.ofInt 3)) <<< ((Int32.ofInt 3) &&& 31)) = Int32.ofNat (24 - 8 * (i % 4)) := by decide
theorem lm_an7 : ∀ i, i < 64 → (Int32.ofInt 56) - (((Int32.ofNat i) &&& (Int32.ofInt 7)) <<< ((Int32.ofInt 3) &&& 31)) = Int32.ofNat (56 - 8 * (i % 8)) := by decide
theorem lm_ptq {m : lm_MI} {q e : Nat} {b : Int64} : ∀ i, i < e + 8 → lm_b8 (lm_pt (lm_pt m q e (Int64.toInt32 (lm_uL b (Int32.ofInt 32)))) q (e + 4) (Int64.toInt32 b) q i) = if i < e then lm_b8 (m q i) else lm_b8 (lm_gl b (e + 7 - i)) := by
  intro i hi
  unfold lm_pt
  by_cases c : i < e
  · rw [if_pos c, lm_u_ne (by omega), lm_u_ne (by omega), lm_u_ne (by omega), lm_u_ne (by omega), lm_u_ne (by omega), lm_u_ne (by omega), lm_u_ne (by omega), lm_u_ne (by omega)]
  · rw [if_neg c]
    obtain ⟨j, rfl⟩ : ∃ j, i = e + j := ⟨i - e, by omega⟩
    rw [show e + 7 - (e + j) = 7 - j by omega]
    have hj : j < 8 := by omega
    match j, hj with
    | 7, _ => rw [show e + 4 + 3 = e + 7 by omega, lm_u_eq]; exact lm_gl0 b
    | 6, _ => rw [lm_u_ne (by omega), show e + 4 + 2 = e + 6 by omega, lm_u_eq]; exact lm_gl1 b
    | 5, _ => rw [lm_u_ne (by omega), lm_u_ne (by omega), show e + 4 + 1 = e + 5 by omega, lm_u_eq]; exact lm_gl2 b
    | 4, _ => rw [lm_u_ne (by omega), lm_u_ne (by omega), lm_u_ne (by omega), lm_u_eq]; exact lm_gl3 b
    | 3, _ => rw [lm_u_ne (by omega), lm_u_ne (by omega), lm_u_ne (by omega), lm_u_ne (by omega), lm_u_eq]; exact lm_gl4 b
    | 2, _ => rw [lm_u_ne (by omega), lm_u_ne (by omega), lm_u_ne (by omega), lm_u_ne (by omega), lm_u_ne (by omega), lm_u_eq]; exact lm_gl5 b
    | 1, _ => rw [lm_u_ne (by omega), lm_u_ne (by omega), lm_u_ne (by omega), lm_u_ne (by omega), lm_u_ne (by omega), lm_u_ne (by omega), lm_u_eq]; exact lm_gl6 b
    | 0, _ => rw [lm_u_ne (by omega), lm_u_ne (by omega), lm_u_ne (by omega), lm_u_ne (by omega), lm_u_ne (by omega), lm_u_ne (by omega), lm_u_ne (by omega), show e + 0 = e by omega, lm_u_eq]; exact lm_gl7 b
section LMFN
variable {sc : lm_H} {d k : Nat} {m : lm_MI} {n : lm_ML} {x : lm_H × Nat × Nat} {h : lm_HV} {T : lm_TB}
/-- the memory behind closeBlock -/
def lm_mc (m : lm_MI) (q f r : Nat) : lm_MI := lm_fil (lm_u m q f (Int32.ofInt (-128))) q (f + 1) r (fun _ => Int32.ofInt 0)
theorem lm_mc_row {q f r p : Nat} (h : p ≠ q) : lm_mc m q f r p = m p := by
  unfold lm_mc
  rw [lm_fl_row h, lm_u_row h]
theorem lm_mc_at {q f r i : Nat} (hi : i < r) : lm_mc m q f r q i = if i < f then m q i else if i = f then Int32.ofInt (-128) else Int32.ofInt 0 := by
  unfold lm_mc
  rw [lm_rf]
  by_cases c : i < f
  · rw [if_neg (by omega), lm_u_ne (by omega), if_pos c]
  · rw [if_neg c]
    by_cases c1 : i = f
    · rw [if_neg (by omega), if_pos c1, c1, lm_u_eq]
    · rw [if_pos (by omega), if_neg c1]
/-- the memory behind putTotal -/
def lm_mt (m : lm_MI) (q e : Nat) (b : Int64) : lm_MI := lm_pt (lm_pt m q e (Int64.toInt32 (lm_uL b (Int32.ofInt 32)))) q (e + 4) (Int64.toInt32 b)
theorem lm_mt_row {q e p : Nat} {b : Int64} (h : p ≠ q) : lm_mt m q e b p = m p := by
  unfold lm_mt
  rw [lm_pt_row h, lm_pt_row h]
theorem lm_128 : lm_b8 (Int32.ofInt (-128)) = lm_b8 (Int32.ofInt 128) := by decide
theorem lm_u213_11 {f c : Nat} (hf : f < 64) (hc : c ≤ 16) (h1 : m 11 1 = Int32.ofNat 64) (h2 : m 11 2 = Int32.ofNat f) : lm_cal sc (d + 3) 213 [.ref 11, .int (Int32.ofNat c)] (lm_w m n x) = some (.ok (some (.int (lm_z (decide (f + 1 + c ≤ 64))))), lm_w (lm_mc m 12 f 64) n x) := by
  refine lm_cal_of (Y := lm_m213) rfl rfl (lm_e213_0 ?_)
  unfold lm_q213_0
  repeat (first
    | ((with_reducible apply lm_sI); exact rfl)
    | ((with_reducible apply lm_sR); exact rfl)
    | ((with_reducible apply lm_sS); exact rfl; exact rfl)
    | ((with_reducible apply lm_sL); exact rfl)
    | ((with_reducible apply lm_sP); exact rfl; exact rfl)
    | ((with_reducible apply lm_sPL); exact rfl; exact rfl)
    | ((with_reducible apply lm_sAA); exact rfl; first | exact rfl | exact lm_roO (by omega) | exact lm_roM (by omega))
    | ((with_reducible apply lm_sI); exact lm_fpL (by omega))
    | ((with_reducible apply lm_sR); exact lm_fpB (by omega))
    | ((with_reducible apply lm_sP); exact lm_fpL (by omega); exact rfl)
    | ((with_reducible apply lm_sS); exact lm_ocO (by omega); exact rfl)
    | ((with_reducible apply lm_sA); exact rfl; omega)
    | ((with_reducible apply lm_sJ); exact rfl; omega)
    | ((with_reducible apply lm_sB); (first | exact rfl | exact lm_arB (by omega) | exact lm_arM (by omega)); omega)
    | ((with_reducible apply lm_wA); exact rfl; omega)
    | ((with_reducible apply lm_wJ); exact rfl; omega)
    | ((with_reducible apply lm_wB); (first | exact rfl | exact lm_arB (by omega) | exact lm_arM (by omega)); omega)
    | ((with_reducible apply lm_sAl); (first | exact rfl | exact lm_arB (by omega) | exact lm_arM (by omega)); omega)
    | ((with_reducible apply lm_iW); decide))
  simp only [Nat.reduceDiv, Nat.reduceMod, h2]
  repeat (first
    | ((with_reducible apply lm_sI); exact rfl)
    | ((with_reducible apply lm_sR); exact rfl)
    | ((with_reducible apply lm_sS); exact rfl; exact rfl)
    | ((with_reducible apply lm_sL); exact rfl)
    | ((with_reducible apply lm_sP); exact rfl; exact rfl)
    | ((with_reducible apply lm_sPL); exact rfl; exact rfl)
    | ((with_reducible apply lm_sAA); exact rfl; first | exact rfl | exact lm_roO (by omega) | exact lm_roM (by omega))
    | ((with_reducible apply lm_sI); exact lm_fpL (by omega))
    | ((with_reducible apply lm_sR); exact lm_fpB (by omega))
    | ((with_reducible apply lm_sP); exact lm_fpL (by omega); exact rfl)
    | ((with_reducible apply lm_sS); exact lm_ocO (by omega); exact rfl)
    | ((with_reducible apply lm_sA); exact rfl; omega)
    | ((with_reducible apply lm_sJ); exact rfl; omega)
    | ((with_reducible apply lm_sB); (first | exact rfl | exact lm_arB (by omega) | exact lm_arM (by omega)); omega)
    | ((with_reducible apply lm_wA); exact rfl; omega)
    | ((with_reducible apply lm_wJ); exact rfl; omega)
    | ((with_reducible apply lm_wB); (first | exact rfl | exact lm_arB (by omega) | exact lm_arM (by omega)); omega)
    | ((with_reducible apply lm_sAl); (first | exact rfl | exact lm_arB (by omega) | exact lm_arM (by omega)); omega)
    | ((with_reducible apply lm_iW); decide))
  simp only [Nat.reduceDiv, Nat.reduceMod]
  rw [lm_u_row (by decide), h1, h2, show Int32.ofNat f + Int32.ofInt 1 = Int32.ofNat (f + 1) from lm_oa f 1]
  refine lm_cV (lm_u134 (d := d) rfl (by omega) (by decide)) ?_
  repeat (first
    | ((with_reducible apply lm_sI); exact rfl)
    | ((with_reducible apply lm_sR); exact rfl)
    | ((with_reducible apply lm_sS); exact rfl; exact rfl)
    | ((with_reducible apply lm_sL); exact rfl)
    | ((with_reducible apply lm_sP); exact rfl; exact rfl)
    | ((with_reducible apply lm_sPL); exact rfl; exact rfl)
    | ((with_reducible apply lm_sAA); exact rfl; first | exact rfl | exact lm_roO (by omega) | exact lm_roM (by omega))
    | ((with_reducible apply lm_sI); exact lm_fpL (by omega))
    | ((with_reducible apply lm_sR); exact lm_fpB (by omega))
    | ((with_reducible apply lm_sP); exact lm_fpL (by omega); exact rfl)
    | ((with_reducible apply lm_sS); exact lm_ocO (by omega); exact rfl)
    | ((with_reducible apply lm_sA); exact rfl; omega)
    | ((with_reducible apply lm_sJ); exact rfl; omega)
    | ((with_reducible apply lm_sB); (first | exact rfl | exact lm_arB (by omega) | exact lm_arM (by omega)); omega)
    | ((with_reducible apply lm_wA); exact rfl; omega)
    | ((with_reducible apply lm_wJ); exact rfl; omega)
    | ((with_reducible apply lm_wB); (first | exact rfl | exact lm_arB (by omega) | exact lm_arM (by omega)); omega)
    | ((with_reducible apply lm_sAl); (first | exact rfl | exact lm_arB (by omega) | exact lm_arM (by omega)); omega)
    | ((with_reducible apply lm_iW); decide))
  simp only [Nat.reduceDiv, Nat.reduceMod]
  rw [lm_fl_row (by decide), lm_u_row (by decide), h1, h2, show Int32.ofNat f + Int32.ofInt 1 = Int32.ofNat (f + 1) from lm_oa f 1, lm_oo]
  by_cases e : f + 1 + c ≤ 64
  · rw [decide_eq_true e]
    exact lm_gtF (by omega) (by omega) (by omega) (lm_iW (by decide) rfl)
  · rw [decide_eq_false e]
    exact lm_gtT (by omega) (by omega) (by omega) (lm_iW (by decide) rfl)
theorem lm_u214_11 {t : Int64} (h1 : m 11 1 = Int32.ofNat 64) (h3 : n 11 3 = t) : lm_cal sc (d + 2) 214 [.ref 11] (lm_w m n x) = some (.ok none, lm_w (lm_mt m 12 56 ((Int64.ofNat 8) * t)) n x) := by
  refine lm_cal_of (Y := lm_m214) rfl rfl (lm_e214_0 ?_)
  unfold lm_q214_0
  repeat (first
    | ((with_reducible apply lm_sI); exact rfl)
    | ((with_reducible apply lm_sR); exact rfl)
    | ((with_reducible apply lm_sS); exact rfl; exact rfl)
    | ((with_reducible apply lm_sL); exact rfl)
    | ((with_reducible apply lm_sP); exact rfl; exact rfl)
    | ((with_reducible apply lm_sPL); exact rfl; exact rfl)
    | ((with_reducible apply lm_sAA); exact rfl; first | exact rfl | exact lm_roO (by omega) | exact lm_roM (by omega))
    | ((with_reducible apply lm_sI); exact lm_fpL (by omega))
    | ((with_reducible apply lm_sR); exact lm_fpB (by omega))
    | ((with_reducible apply lm_sP); exact lm_fpL (by omega); exact rfl)
    | ((with_reducible apply lm_sS); exact lm_ocO (by omega); exact rfl)
    | ((with_reducible apply lm_sA); exact rfl; omega)
    | ((with_reducible apply lm_sJ); exact rfl; omega)
    | ((with_reducible apply lm_sB); (first | exact rfl | exact lm_arB (by omega) | exact lm_arM (by omega)); omega)
    | ((with_reducible apply lm_wA); exact rfl; omega)
    | ((with_reducible apply lm_wJ); exact rfl; omega)
    | ((with_reducible apply lm_wB); (first | exact rfl | exact lm_arB (by omega) | exact lm_arM (by omega)); omega)
    | ((with_reducible apply lm_sAl); (first | exact rfl | exact lm_arB (by omega) | exact lm_arM (by omega)); omega)
    | ((with_reducible apply lm_iW); decide))
  simp only [Nat.reduceDiv, Nat.reduceMod, h1, h3]
  rw [show Int32.ofNat 64 - Int32.ofInt 8 = Int32.ofNat 56 by decide]
  refine lm_cV (lm_u131 (d := d) rfl (by decide)) ?_
  repeat (first
    | ((with_reducible apply lm_sI); exact rfl)
    | ((with_reducible apply lm_sR); exact rfl)
    | ((with_reducible apply lm_sS); exact rfl; exact rfl)
    | ((with_reducible apply lm_sL); exact rfl)
    | ((with_reducible apply lm_sP); exact rfl; exact rfl)
    | ((with_reducible apply lm_sPL); exact rfl; exact rfl)
    | ((with_reducible apply lm_sAA); exact rfl; first | exact rfl | exact lm_roO (by omega) | exact lm_roM (by omega))
    | ((with_reducible apply lm_sI); exact lm_fpL (by omega))
    | ((with_reducible apply lm_sR); exact lm_fpB (by omega))
    | ((with_reducible apply lm_sP); exact lm_fpL (by omega); exact rfl)
    | ((with_reducible apply lm_sS); exact lm_ocO (by omega); exact rfl)
    | ((with_reducible apply lm_sA); exact rfl; omega)
    | ((with_reducible apply lm_sJ); exact rfl; omega)
    | ((with_reducible apply lm_sB); (first | exact rfl | exact lm_arB (by omega) | exact lm_arM (by omega)); omega)
    | ((with_reducible apply lm_wA); exact rfl; omega)
    | ((with_reducible apply lm_wJ); exact rfl; omega)
    | ((with_reducible apply lm_wB); (first | exact rfl | exact lm_arB (by omega) | exact lm_arM (by omega)); omega)
    | ((with_reducible apply lm_sAl); (first | exact rfl | exact lm_arB (by omega) | exact lm_arM (by omega)); omega)
    | ((with_reducible apply lm_iW); decide))
  simp only [Nat.reduceDiv, Nat.reduceMod]
  rw [lm_pt_row (by decide), h1, show Int32.ofNat 64 - Int32.ofInt 4 = Int32.ofNat (56 + 4) by decide]
  refine lm_cV (lm_u131 (d := d) rfl (by decide)) ?_
  exact rfl
/-- a block is taken, whatever the count says -/
theorem lm_tk11 {S : Nat → Int64} {b : Nat → Int32} (hT : lm_Tok sc T) (hk : ¬ 6 < k) (hS : (∀ i, i < 8 → m 14 i = Int64.toInt32 (S i))) (hb : ∀ i, i < 64 → lm_b8 (m 12 i) = lm_b8 (b i)) : ∃ m' n', lm_cal sc (d + 2) 207 [.ref 11] (lm_w m n x) = some (.ok none, lm_w m' n' x) ∧ (∀ i, i < 8 → m' 14 i = Int64.toInt32 (lm_cpr T k 64 S b i)) ∧ lm_fa 11 15 m n m' n' ∧ m' 11 = m 11 ∧ n' 11 = n 11 ∧ m' 12 = m 12 := by
  obtain ⟨zs, ys, t1, t2, t3, t4, t5, t6, t7⟩ := hT
  obtain ⟨m', e, f1, f2⟩ := lm_u207 (sc := sc) (d := d) (n := n) (x := x) (m := m) t3 t4
  refine ⟨m', n, e, ?_, ⟨fun q hq => f2 q (by omega) (by omega), fun _ _ => rfl, fun _ _ => by rw [f2 11 (by decide) (by decide)], fun _ _ => rfl, f2 13 (by decide) (by decide), f2 15 (by decide) (by decide), rfl⟩, f2 11 (by decide) (by decide), rfl, f2 12 (by decide) (by decide)⟩
  intro i hi
  rw [f1]
  unfold lm_cpr
  rw [if_neg hk, if_pos rfl, ← lm_cv2_eq (s := m 14) hS i hi]
  rw [lm_cv2_lo (K' := T.2.2) (b' := b) (fun t ht => (t7 t ht).symm) hb]
theorem lm_l144 {q v a l : Nat} {S : Nat → Int64} (hq : q < 11 ∨ 11 + 5 < q) (har : lm_ar q = some (1, v)) (hal : a + l ≤ v) (hv : v ≤ 70000) (hl : l ≤ 32) (hS : (∀ i, i < 8 → m 14 i = Int64.toInt32 (S i))) : ∀ j t, t + j = l → lm_rn sc d lm_m144.2.2.2.2.1 (lm_reg lm_m144.2.2.2.2.2) (32, [(0, .ref 11), (1, .ref q), (2, .int (Int32.ofNat a)), (3, .int (Int32.ofNat l)), (4, .int (Int32.ofNat t))], []) (lm_w (lm_fil m q a (a + t) (fun i => lm_o2 S (i - a))) n x) = some (.ok none, lm_w (lm_fil m q a (a + l) (fun i => lm_o2 S (i - a))) n x) := by
  intro j
  induction j with
  | zero =>
    intro t ht
    have ht : t = l := ht
    subst ht
    refine lm_e144_32 ?_
    unfold lm_q144_32
    exact lm_geT (by omega) (by omega) (by omega) rfl
  | succ j ih =>
    intro t ht
    have I := ih (t + 1) (by omega)
    rw [← Nat.add_assoc a t 1, ← lm_fl_step (g := fun i => lm_o2 S (i - a)) (by omega)] at I
    refine lm_e144_32 ?_
    unfold lm_q144_32
    refine lm_geF (by omega) (by omega) (by omega) ?_
    rw [lm_sh2 t (by omega), lm_an3 t (by omega), lm_oo]
    repeat (first
    | ((with_reducible apply lm_sI); exact rfl)
    | ((with_reducible apply lm_sR); exact rfl)
    | ((with_reducible apply lm_sS); exact rfl; exact rfl)
    | ((with_reducible apply lm_sL); exact rfl)
    | ((with_reducible apply lm_sP); exact rfl; exact rfl)
    | ((with_reducible apply lm_sPL); exact rfl; exact rfl)
    | ((with_reducible apply lm_sAA); exact rfl; first | exact rfl | exact lm_roO (by omega) | exact lm_roM (by omega))
    | ((with_reducible apply lm_sI); exact lm_fpL (by omega))
    | ((with_reducible apply lm_sR); exact lm_fpB (by omega))
    | ((with_reducible apply lm_sP); exact lm_fpL (by omega); exact rfl)
    | ((with_reducible apply lm_sS); exact lm_ocO (by omega); exact rfl)
    | ((with_reducible apply lm_sA); exact rfl; omega)
    | ((with_reducible apply lm_sJ); exact rfl; omega)
    | ((with_reducible apply lm_sB); (first | exact rfl | exact lm_arB (by omega) | exact lm_arM (by omega)); omega)
    | ((with_reducible apply lm_wA); exact rfl; omega)
    | ((with_reducible apply lm_wJ); exact rfl; omega)
    | ((with_reducible apply lm_wB); (first | exact rfl | exact lm_arB (by omega) | exact lm_arM (by omega)); omega)
    | ((with_reducible apply lm_sAl); (first | exact rfl | exact lm_arB (by omega) | exact lm_arM (by omega)); omega)
    | ((with_reducible apply lm_iW); decide))
    rw [lm_fl_row (by omega), hS (t / 4) (by omega), lm_out2 _ (by omega)]
    refine lm_wB har (by omega) ?_
    rw [show Int32.ofNat t + Int32.ofInt 1 = Int32.ofNat (t + 1) from lm_oa t 1]
    rw [show lm_o2 S (a + t - a) = lm_b8 (Int64.toInt32 (lm_uL (S (t / 4)) (Int32.ofNat (24 - 8 * (t % 4))))) by rw [Nat.add_sub_cancel_left]; rfl] at I
    exact I
theorem lm_u144 {q v a l : Nat} (hT : lm_Tok sc T) (hq : q < 11 ∨ 11 + 5 < q) (har : lm_ar q = some (1, v)) (hal : a + l ≤ v) (hv : v ≤ 70000) (hl : l ≤ 32) (hf : h.1 < 64) (hC : lm_C11 m n k 64 h) (ht : n 11 3 = h.2.1) : ∃ m' n', lm_cal sc (d + 4) 144 [.ref 11, .ref q, .int (Int32.ofNat a), .int (Int32.ofNat l)] (lm_w m n x) = some (.ok none, lm_w (lm_fil m' q a (a + l) (fun i => lm_o2 (lm_hf T k 64 h).2.2.1 (i - a))) n' x) ∧ lm_fa 11 15 m n m' n' := by
  obtain ⟨c1, c2, c5, c6, c7, c8⟩ := hC
  have fmc : lm_fa 11 15 m n (lm_mc m 12 h.1 64) n := ⟨fun p hp => lm_mc_row (by omega), fun _ _ => rfl, fun i hi => by rw [lm_mc_row (by decide)], fun _ _ => rfl, lm_mc_row (by decide), lm_mc_row (by decide), rfl⟩
  have fmt : ∀ (m1 : lm_MI) (n1 : lm_ML) (b : Int64), lm_fa 11 15 m1 n1 (lm_mt m1 12 56 b) n1 := fun m1 n1 b => ⟨fun p hp => lm_mt_row (by omega), fun _ _ => rfl, fun i hi => by rw [lm_mt_row (by decide)], fun _ _ => rfl, lm_mt_row (by decide), lm_mt_row (by decide), rfl⟩
  have tail : ∀ (m1 : lm_MI) (n1 : lm_ML) (S : Nat → Int64) (b : Nat → Int32), m1 11 1 = Int32.ofNat 64 → n1 11 3 = h.2.1 → (∀ i, i < 8 → m1 14 i = Int64.toInt32 (S i)) → (∀ i, i < 64 → lm_b8 (lm_mt m1 12 56 ((Int64.ofNat 8) * h.2.1) 12 i) = lm_b8 (b i)) → (∀ i, i < 8 → (lm_hf T k 64 h).2.2.1 i = lm_cpr T k 64 S b i) → ∃ m' n', lm_rn sc (d + 3) lm_m144.2.2.2.2.1 (lm_reg lm_m144.2.2.2.2.2) (21, [(0, .ref 11), (1, .ref q), (2, .int (Int32.ofNat a)), (3, .int (Int32.ofNat l))], []) (lm_w m1 n1 x) = some (.ok none, lm_w (lm_fil m' q a (a + l) (fun i => lm_o2 (lm_hf T k 64 h).2.2.1 (i - a))) n' x) ∧ lm_fa 11 15 m1 n1 m' n' := by
    intro m1 n1 S b g1 g2 g3 g4 g5
    obtain ⟨m2, n2, e2, s2, f2, _, _, _⟩ := lm_tk11 (sc := sc) (d := d + 1) (m := lm_mt m1 12 56 ((Int64.ofNat 8) * h.2.1)) (n := n1) (x := x) (T := T) (k := k) (S := S) (b := b) hT c1 (fun i hi => by rw [lm_mt_row (by decide)]; exact g3 i hi) g4
    refine ⟨m2, n2, ?_, (fmt m1 n1 _).tr f2⟩
    refine lm_e144_21 ?_
    unfold lm_q144_21
    repeat (first
    | ((with_reducible apply lm_sI); exact rfl)
    | ((with_reducible apply lm_sR); exact rfl)
    | ((with_reducible apply lm_sS); exact rfl; exact rfl)
    | ((with_reducible apply lm_sL); exact rfl)
    | ((with_reducible apply lm_sP); exact rfl; exact rfl)
    | ((with_reducible apply lm_sPL); exact rfl; exact rfl)
    | ((with_reducible apply lm_sAA); exact rfl; first | exact rfl | exact lm_roO (by omega) | exact lm_roM (by omega))
    | ((with_reducible apply lm_sI); exact lm_fpL (by omega))
    | ((with_reducible apply lm_sR); exact lm_fpB (by omega))
    | ((with_reducible apply lm_sP); exact lm_fpL (by omega); exact rfl)
    | ((with_reducible apply lm_sS); exact lm_ocO (by omega); exact rfl)
    | ((with_reducible apply lm_sA); exact rfl; omega)
    | ((with_reducible apply lm_sJ); exact rfl; omega)
    | ((with_reducible apply lm_sB); (first | exact rfl | exact lm_arB (by omega) | exact lm_arM (by omega)); omega)
    | ((with_reducible apply lm_wA); exact rfl; omega)
    | ((with_reducible apply lm_wJ); exact rfl; omega)
    | ((with_reducible apply lm_wB); (first | exact rfl | exact lm_arB (by omega) | exact lm_arM (by omega)); omega)
    | ((with_reducible apply lm_sAl); (first | exact rfl | exact lm_arB (by omega) | exact lm_arM (by omega)); omega)
    | ((with_reducible apply lm_iW); decide))
    refine lm_cV (lm_u214_11 (d := d + 1) g1 g2) ?_
    repeat (first
    | ((with_reducible apply lm_sI); exact rfl)
    | ((with_reducible apply lm_sR); exact rfl)
    | ((with_reducible apply lm_sS); exact rfl; exact rfl)
    | ((with_reducible apply lm_sL); exact rfl)
    | ((with_reducible apply lm_sP); exact rfl; exact rfl)
    | ((with_reducible apply lm_sPL); exact rfl; exact rfl)
    | ((with_reducible apply lm_sAA); exact rfl; first | exact rfl | exact lm_roO (by omega) | exact lm_roM (by omega))
    | ((with_reducible apply lm_sI); exact lm_fpL (by omega))
    | ((with_reducible apply lm_sR); exact lm_fpB (by omega))
    | ((with_reducible apply lm_sP); exact lm_fpL (by omega); exact rfl)
    | ((with_reducible apply lm_sS); exact lm_ocO (by omega); exact rfl)
    | ((with_reducible apply lm_sA); exact rfl; omega)
    | ((with_reducible apply lm_sJ); exact rfl; omega)
    | ((with_reducible apply lm_sB); (first | exact rfl | exact lm_arB (by omega) | exact lm_arM (by omega)); omega)
    | ((with_reducible apply lm_wA); exact rfl; omega)
    | ((with_reducible apply lm_wJ); exact rfl; omega)
    | ((with_reducible apply lm_wB); (first | exact rfl | exact lm_arB (by omega) | exact lm_arM (by omega)); omega)
    | ((with_reducible apply lm_sAl); (first | exact rfl | exact lm_arB (by omega) | exact lm_arM (by omega)); omega)
    | ((with_reducible apply lm_iW); decide))
    refine lm_cV e2 ?_
    have L := lm_l144 (sc := sc) (d := d + 3) (m := m2) (n := n2) (x := x) (S := (lm_hf T k 64 h).2.2.1) hq har hal hv hl (fun i hi => (s2 i hi).trans (by rw [g5 i hi])) l 0 (by omega)
    rw [Nat.add_zero a, lm_fl_nil] at L
    exact L
  by_cases c : h.1 + 1 + 8 ≤ 64
  · obtain ⟨m', n', e, f⟩ := tail (lm_mc m 12 h.1 64) n h.2.2.1 (lm_bA 64 h) (by rw [lm_mc_row (by decide)]; exact c5) ht (fun i hi => by rw [lm_mc_row (by decide)]; exact c7 i hi) (fun i hi => by
      unfold lm_mt
      rw [lm_ptq i (by omega), lm_mc_at hi]
      unfold lm_bA
      by_cases a1 : i < h.1
      · rw [if_pos (by omega), if_pos a1, if_pos a1]; exact c8 i a1
      · rw [if_neg a1, if_neg a1]
        by_cases a2 : i = h.1
        · rw [if_pos (by omega), if_pos a2, if_pos a2]; exact lm_128
        · rw [if_neg a2, if_neg a2]
          by_cases a3 : i < 56
          · rw [if_pos a3]
            by_cases a4 : i < 64 - 64 / 8
            · rw [if_pos a4]
            · rw [if_neg a4]
              unfold lm_gl
              rw [if_pos (by omega)]
          · rw [if_neg a3, if_neg (by omega)])
      (lm_hf_A c1 (by decide) c)
    refine ⟨m', n', ?_, fmc.tr f⟩
    refine lm_cal_of (Y := lm_m144) rfl rfl (lm_e144_0 ?_)
    unfold lm_q144_0
    rw [lm_K8]
    repeat (first
    | ((with_reducible apply lm_sI); exact rfl)
    | ((with_reducible apply lm_sR); exact rfl)
    | ((with_reducible apply lm_sS); exact rfl; exact rfl)
    | ((with_reducible apply lm_sL); exact rfl)
    | ((with_reducible apply lm_sP); exact rfl; exact rfl)
    | ((with_reducible apply lm_sPL); exact rfl; exact rfl)
    | ((with_reducible apply lm_sAA); exact rfl; first | exact rfl | exact lm_roO (by omega) | exact lm_roM (by omega))
    | ((with_reducible apply lm_sI); exact lm_fpL (by omega))
    | ((with_reducible apply lm_sR); exact lm_fpB (by omega))
    | ((with_reducible apply lm_sP); exact lm_fpL (by omega); exact rfl)
    | ((with_reducible apply lm_sS); exact lm_ocO (by omega); exact rfl)
    | ((with_reducible apply lm_sA); exact rfl; omega)
    | ((with_reducible apply lm_sJ); exact rfl; omega)
    | ((with_reducible apply lm_sB); (first | exact rfl | exact lm_arB (by omega) | exact lm_arM (by omega)); omega)
    | ((with_reducible apply lm_wA); exact rfl; omega)
    | ((with_reducible apply lm_wJ); exact rfl; omega)
    | ((with_reducible apply lm_wB); (first | exact rfl | exact lm_arB (by omega) | exact lm_arM (by omega)); omega)
    | ((with_reducible apply lm_sAl); (first | exact rfl | exact lm_arB (by omega) | exact lm_arM (by omega)); omega)
    | ((with_reducible apply lm_iW); decide))
    refine lm_cI (lm_u213_11 (d := d) hf (by decide) c5 c6) ?_
    rw [decide_eq_true c]
    exact lm_iT (show ¬ (1 : Int32) = 0 by decide) e
  · obtain ⟨m1, n1, e1, s1, f1, g1, g2, g3⟩ := lm_tk11 (sc := sc) (d := d + 1) (m := lm_mc m 12 h.1 64) (n := n) (x := x) (T := T) (k := k) (S := h.2.2.1) (b := lm_bB h) hT c1 (fun i hi => by rw [lm_mc_row (by decide)]; exact c7 i hi) (fun i hi => by
      rw [lm_mc_at hi]
      unfold lm_bB
      by_cases a1 : i < h.1
      · rw [if_pos a1, if_pos a1]; exact c8 i a1
      · rw [if_neg a1, if_neg a1]
        by_cases a2 : i = h.1
        · rw [if_pos a2, if_pos a2]; exact lm_128
        · rw [if_neg a2, if_neg a2])
    have f3 : lm_fa 11 15 m1 n1 (lm_fil m1 12 0 64 fun _ => Int32.ofInt 0) n1 := ⟨fun p hp => lm_fl_row (by omega), fun _ _ => rfl, fun i hi => by rw [lm_fl_row (by decide)], fun _ _ => rfl, lm_fl_row (by decide), lm_fl_row (by decide), rfl⟩
    obtain ⟨m', n', e, f⟩ := tail (lm_fil m1 12 0 64 fun _ => Int32.ofInt 0) n1 (lm_cpr T k 64 h.2.2.1 (lm_bB h)) (lm_bC 64 ((Int64.ofNat 8) * h.2.1)) (by rw [lm_fl_row (by decide), g1, lm_mc_row (by decide)]; exact c5) (by rw [g2]; exact ht) (fun i hi => by rw [lm_fl_row (by decide)]; exact s1 i hi) (fun i hi => by
      unfold lm_mt
      rw [lm_ptq i (by omega), lm_fl_in (by omega)]
      unfold lm_bC
      by_cases a3 : i < 56
      · rw [if_pos a3]
        by_cases a4 : i < 64 - 64 / 8
        · rw [if_pos a4]
        · rw [if_neg a4]
          unfold lm_gl
          rw [if_pos (by omega)]
      · rw [if_neg a3, if_neg (by omega)])
      (lm_hf_B c1 (by decide) hf c)
    refine ⟨m', n', ?_, ((fmc.tr f1).tr f3).tr f⟩
    refine lm_cal_of (Y := lm_m144) rfl rfl (lm_e144_0 ?_)
    unfold lm_q144_0
    rw [lm_K8]
    repeat (first
    | ((with_reducible apply lm_sI); exact rfl)
    | ((with_reducible apply lm_sR); exact rfl)
    | ((with_reducible apply lm_sS); exact rfl; exact rfl)
    | ((with_reducible apply lm_sL); exact rfl)
    | ((with_reducible apply lm_sP); exact rfl; exact rfl)
    | ((with_reducible apply lm_sPL); exact rfl; exact rfl)
    | ((with_reducible apply lm_sAA); exact rfl; first | exact rfl | exact lm_roO (by omega) | exact lm_roM (by omega))
    | ((with_reducible apply lm_sI); exact lm_fpL (by omega))
    | ((with_reducible apply lm_sR); exact lm_fpB (by omega))
    | ((with_reducible apply lm_sP); exact lm_fpL (by omega); exact rfl)
    | ((with_reducible apply lm_sS); exact lm_ocO (by omega); exact rfl)
    | ((with_reducible apply lm_sA); exact rfl; omega)
    | ((with_reducible apply lm_sJ); exact rfl; omega)
    | ((with_reducible apply lm_sB); (first | exact rfl | exact lm_arB (by omega) | exact lm_arM (by omega)); omega)
    | ((with_reducible apply lm_wA); exact rfl; omega)
    | ((with_reducible apply lm_wJ); exact rfl; omega)
    | ((with_reducible apply lm_wB); (first | exact rfl | exact lm_arB (by omega) | exact lm_arM (by omega)); omega)
    | ((with_reducible apply lm_sAl); (first | exact rfl | exact lm_arB (by omega) | exact lm_arM (by omega)); omega)
    | ((with_reducible apply lm_iW); decide))
    refine lm_cI (lm_u213_11 (d := d) hf (by decide) c5 c6) ?_
    rw [decide_eq_false c]
    refine lm_iF (show ¬ ¬ (0 : Int32) = 0 by decide) ?_
    repeat (first
    | ((with_reducible apply lm_sI); exact rfl)
    | ((with_reducible apply lm_sR); exact rfl)
    | ((with_reducible apply lm_sS); exact rfl; exact rfl)
    | ((with_reducible apply lm_sL); exact rfl)
    | ((with_reducible apply lm_sP); exact rfl; exact rfl)
    | ((with_reducible apply lm_sPL); exact rfl; exact rfl)
    | ((with_reducible apply lm_sAA); exact rfl; first | exact rfl | exact lm_roO (by omega) | exact lm_roM (by omega))
    | ((with_reducible apply lm_sI); exact lm_fpL (by omega))
    | ((with_reducible apply lm_sR); exact lm_fpB (by omega))
    | ((with_reducible apply lm_sP); exact lm_fpL (by omega); exact rfl)
    | ((with_reducible apply lm_sS); exact lm_ocO (by omega); exact rfl)
    | ((with_reducible apply lm_sA); exact rfl; omega)
    | ((with_reducible apply lm_sJ); exact rfl; omega)
    | ((with_reducible apply lm_sB); (first | exact rfl | exact lm_arB (by omega) | exact lm_arM (by omega)); omega)
    | ((with_reducible apply lm_wA); exact rfl; omega)
    | ((with_reducible apply lm_wJ); exact rfl; omega)
    | ((with_reducible apply lm_wB); (first | exact rfl | exact lm_arB (by omega) | exact lm_arM (by omega)); omega)
    | ((with_reducible apply lm_sAl); (first | exact rfl | exact lm_arB (by omega) | exact lm_arM (by omega)); omega)
    | ((with_reducible apply lm_iW); decide))
    refine lm_cV e1 ?_
    repeat (first
    | ((with_reducible apply lm_sI); exact rfl)
    | ((with_reducible apply lm_sR); exact rfl)
    | ((with_reducible apply lm_sS); exact rfl; exact rfl)
    | ((with_reducible apply lm_sL); exact rfl)
    | ((with_reducible apply lm_sP); exact rfl; exact rfl)
    | ((with_reducible apply lm_sPL); exact rfl; exact rfl)
    | ((with_reducible apply lm_sAA); exact rfl; first | exact rfl | exact lm_roO (by omega) | exact lm_roM (by omega))
    | ((with_reducible apply lm_sI); exact lm_fpL (by omega))
    | ((with_reducible apply lm_sR); exact lm_fpB (by omega))
    | ((with_reducible apply lm_sP); exact lm_fpL (by omega); exact rfl)
    | ((with_reducible apply lm_sS); exact lm_ocO (by omega); exact rfl)
    | ((with_reducible apply lm_sA); exact rfl; omega)
    | ((with_reducible apply lm_sJ); exact rfl; omega)
    | ((with_reducible apply lm_sB); (first | exact rfl | exact lm_arB (by omega) | exact lm_arM (by omega)); omega)
    | ((with_reducible apply lm_wA); exact rfl; omega)
    | ((with_reducible apply lm_wJ); exact rfl; omega)
    | ((with_reducible apply lm_wB); (first | exact rfl | exact lm_arB (by omega) | exact lm_arM (by omega)); omega)
    | ((with_reducible apply lm_sAl); (first | exact rfl | exact lm_arB (by omega) | exact lm_arM (by omega)); omega)
    | ((with_reducible apply lm_iW); decide))
    refine lm_cV (lm_u199 (d := d + 2) rfl) ?_
    exact e
theorem lm_u213_17 {f c : Nat} (hf : f < 128) (hc : c ≤ 16) (h1 : m 17 1 = Int32.ofNat 128) (h2 : m 17 2 = Int32.ofNat f) : lm_cal sc (d + 3) 213 [.ref 17, .int (Int32.ofNat c)] (lm_w m n x) = some (.ok (some (.int (lm_z (decide (f + 1 + c ≤ 128))))), lm_w (lm_mc m 18 f 128) n x) := by
  refine lm_cal_of (Y := lm_m213) rfl rfl (lm_e213_0 ?_)
  unfold lm_q213_0
  repeat (first
    | ((with_reducible apply lm_sI); exact rfl)
    | ((with_reducible apply lm_sR); exact rfl)
    | ((with_reducible apply lm_sS); exact rfl; exact rfl)
    | ((with_reducible apply lm_sL); exact rfl)
    | ((with_reducible apply lm_sP); exact rfl; exact rfl)
    | ((with_reducible apply lm_sPL); exact rfl; exact rfl)
    | ((with_reducible apply lm_sAA); exact rfl; first | exact rfl | exact lm_roO (by omega) | exact lm_roM (by omega))
    | ((with_reducible apply lm_sI); exact lm_fpL (by omega))
    | ((with_reducible apply lm_sR); exact lm_fpB (by omega))
    | ((with_reducible apply lm_sP); exact lm_fpL (by omega); exact rfl)
    | ((with_reducible apply lm_sS); exact lm_ocO (by omega); exact rfl)
    | ((with_reducible apply lm_sA); exact rfl; omega)
    | ((with_reducible apply lm_sJ); exact rfl; omega)
    | ((with_reducible apply lm_sB); (first | exact rfl | exact lm_arB (by omega) | exact lm_arM (by omega)); omega)
    | ((with_reducible apply lm_wA); exact rfl; omega)
    | ((with_reducible apply lm_wJ); exact rfl; omega)
    | ((with_reducible apply lm_wB); (first | exact rfl | exact lm_arB (by omega) | exact lm_arM (by omega)); omega)
    | ((with_reducible apply lm_sAl); (first | exact rfl | exact lm_arB (by omega) | exact lm_arM (by omega)); omega)
    | ((with_reducible apply lm_iW); decide))
  simp only [Nat.reduceDiv, Nat.reduceMod, h2]
  repeat (first
    | ((with_reducible apply lm_sI); exact rfl)
    | ((with_reducible apply lm_sR); exact rfl)
    | ((with_reducible apply lm_sS); exact rfl; exact rfl)
    | ((with_reducible apply lm_sL); exact rfl)
    | ((with_reducible apply lm_sP); exact rfl; exact rfl)
    | ((with_reducible apply lm_sPL); exact rfl; exact rfl)
    | ((with_reducible apply lm_sAA); exact rfl; first | exact rfl | exact lm_roO (by omega) | exact lm_roM (by omega))
    | ((with_reducible apply lm_sI); exact lm_fpL (by omega))
    | ((with_reducible apply lm_sR); exact lm_fpB (by omega))
    | ((with_reducible apply lm_sP); exact lm_fpL (by omega); exact rfl)
    | ((with_reducible apply lm_sS); exact lm_ocO (by omega); exact rfl)
    | ((with_reducible apply lm_sA); exact rfl; omega)
    | ((with_reducible apply lm_sJ); exact rfl; omega)
    | ((with_reducible apply lm_sB); (first | exact rfl | exact lm_arB (by omega) | exact lm_arM (by omega)); omega)
    | ((with_reducible apply lm_wA); exact rfl; omega)
    | ((with_reducible apply lm_wJ); exact rfl; omega)
    | ((with_reducible apply lm_wB); (first | exact rfl | exact lm_arB (by omega) | exact lm_arM (by omega)); omega)
    | ((with_reducible apply lm_sAl); (first | exact rfl | exact lm_arB (by omega) | exact lm_arM (by omega)); omega)
    | ((with_reducible apply lm_iW); decide))
  simp only [Nat.reduceDiv, Nat.reduceMod]
  rw [lm_u_row (by decide), h1, h2, show Int32.ofNat f + Int32.ofInt 1 = Int32.ofNat (f + 1) from lm_oa f 1]
  refine lm_cV (lm_u134 (d := d) rfl (by omega) (by decide)) ?_
  repeat (first
    | ((with_reducible apply lm_sI); exact rfl)
    | ((with_reducible apply lm_sR); exact rfl)
    | ((with_reducible apply lm_sS); exact rfl; exact rfl)
    | ((with_reducible apply lm_sL); exact rfl)
    | ((with_reducible apply lm_sP); exact rfl; exact rfl)
    | ((with_reducible apply lm_sPL); exact rfl; exact rfl)
    | ((with_reducible apply lm_sAA); exact rfl; first | exact rfl | exact lm_roO (by omega) | exact lm_roM (by omega))
    | ((with_reducible apply lm_sI); exact lm_fpL (by omega))
    | ((with_reducible apply lm_sR); exact lm_fpB (by omega))
    | ((with_reducible apply lm_sP); exact lm_fpL (by omega); exact rfl)
    | ((with_reducible apply lm_sS); exact lm_ocO (by omega); exact rfl)
    | ((with_reducible apply lm_sA); exact rfl; omega)
    | ((with_reducible apply lm_sJ); exact rfl; omega)
    | ((with_reducible apply lm_sB); (first | exact rfl | exact lm_arB (by omega) | exact lm_arM (by omega)); omega)
    | ((with_reducible apply lm_wA); exact rfl; omega)
    | ((with_reducible apply lm_wJ); exact rfl; omega)
    | ((with_reducible apply lm_wB); (first | exact rfl | exact lm_arB (by omega) | exact lm_arM (by omega)); omega)
    | ((with_reducible apply lm_sAl); (first | exact rfl | exact lm_arB (by omega) | exact lm_arM (by omega)); omega)
    | ((with_reducible apply lm_iW); decide))
  simp only [Nat.reduceDiv, Nat.reduceMod]
  rw [lm_fl_row (by decide), lm_u_row (by decide), h1, h2, show Int32.ofNat f + Int32.ofInt 1 = Int32.ofNat (f + 1) from lm_oa f 1, lm_oo]
  by_cases e : f + 1 + c ≤ 128
  · rw [decide_eq_true e]
    exact lm_gtF (by omega) (by omega) (by omega) (lm_iW (by decide) rfl)
  · rw [decide_eq_false e]
    exact lm_gtT (by omega) (by omega) (by omega) (lm_iW (by decide) rfl)
theorem lm_u214_17 {t : Int64} (h1 : m 17 1 = Int32.ofNat 128) (h3 : n 17 3 = t) : lm_cal sc (d + 2) 214 [.ref 17] (lm_w m n x) = some (.ok none, lm_w (lm_mt m 18 120 ((Int64.ofNat 8) * t)) n x) := by
  refine lm_cal_of (Y := lm_m214) rfl rfl (lm_e214_0 ?_)
  unfold lm_q214_0
  repeat (first
    | ((with_reducible apply lm_sI); exact rfl)
    | ((with_reducible apply lm_sR); exact rfl)
    | ((with_reducible apply lm_sS); exact rfl; exact rfl)
    | ((with_reducible apply lm_sL); exact rfl)
    | ((with_reducible apply lm_sP); exact rfl; exact rfl)
    | ((with_reducible apply lm_sPL); exact rfl; exact rfl)
    | ((with_reducible apply lm_sAA); exact rfl; first | exact rfl | exact lm_roO (by omega) | exact lm_roM (by omega))
    | ((with_reducible apply lm_sI); exact lm_fpL (by omega))
    | ((with_reducible apply lm_sR); exact lm_fpB (by omega))
    | ((with_reducible apply lm_sP); exact lm_fpL (by omega); exact rfl)
    | ((with_reducible apply lm_sS); exact lm_ocO (by omega); exact rfl)
    | ((with_reducible apply lm_sA); exact rfl; omega)
    | ((with_reducible apply lm_sJ); exact rfl; omega)
    | ((with_reducible apply lm_sB); (first | exact rfl | exact lm_arB (by omega) | exact lm_arM (by omega)); omega)
    | ((with_reducible apply lm_wA); exact rfl; omega)
    | ((with_reducible apply lm_wJ); exact rfl; omega)
    | ((with_reducible apply lm_wB); (first | exact rfl | exact lm_arB (by omega) | exact lm_arM (by omega)); omega)
    | ((with_reducible apply lm_sAl); (first | exact rfl | exact lm_arB (by omega) | exact lm_arM (by omega)); omega)
    | ((with_reducible apply lm_iW); decide))
  simp only [Nat.reduceDiv, Nat.reduceMod, h1, h3]
  rw [show Int32.ofNat 128 - Int32.ofInt 8 = Int32.ofNat 120 by decide]
  refine lm_cV (lm_u131 (d := d) rfl (by decide)) ?_
  repeat (first
    | ((with_reducible apply lm_sI); exact rfl)
    | ((with_reducible apply lm_sR); exact rfl)
    | ((with_reducible apply lm_sS); exact rfl; exact rfl)
    | ((with_reducible apply lm_sL); exact rfl)
    | ((with_reducible apply lm_sP); exact rfl; exact rfl)
    | ((with_reducible apply lm_sPL); exact rfl; exact rfl)
    | ((with_reducible apply lm_sAA); exact rfl; first | exact rfl | exact lm_roO (by omega) | exact lm_roM (by omega))
    | ((with_reducible apply lm_sI); exact lm_fpL (by omega))
    | ((with_reducible apply lm_sR); exact lm_fpB (by omega))
    | ((with_reducible apply lm_sP); exact lm_fpL (by omega); exact rfl)
    | ((with_reducible apply lm_sS); exact lm_ocO (by omega); exact rfl)
    | ((with_reducible apply lm_sA); exact rfl; omega)
    | ((with_reducible apply lm_sJ); exact rfl; omega)
    | ((with_reducible apply lm_sB); (first | exact rfl | exact lm_arB (by omega) | exact lm_arM (by omega)); omega)
    | ((with_reducible apply lm_wA); exact rfl; omega)
    | ((with_reducible apply lm_wJ); exact rfl; omega)
    | ((with_reducible apply lm_wB); (first | exact rfl | exact lm_arB (by omega) | exact lm_arM (by omega)); omega)
    | ((with_reducible apply lm_sAl); (first | exact rfl | exact lm_arB (by omega) | exact lm_arM (by omega)); omega)
    | ((with_reducible apply lm_iW); decide))
  simp only [Nat.reduceDiv, Nat.reduceMod]
  rw [lm_pt_row (by decide), h1, show Int32.ofNat 128 - Int32.ofInt 4 = Int32.ofNat (120 + 4) by decide]
  refine lm_cV (lm_u131 (d := d) rfl (by decide)) ?_
  exact rfl
/-- a block is taken, whatever the count says -/
theorem lm_tk17 {S : Nat → Int64} {b : Nat → Int32} (hT : lm_Tok sc T) (hk : ¬ 6 < k) (hS : (∀ i, i < 8 → n 20 i = S i)) (hb : ∀ i, i < 128 → lm_b8 (m 18 i) = lm_b8 (b i)) : ∃ m' n', lm_cal sc (d + 2) 208 [.ref 17] (lm_w m n x) = some (.ok none, lm_w m' n' x) ∧ (∀ i, i < 8 → n' 20 i = lm_cpr T k 128 S b i) ∧ lm_fa 17 21 m n m' n' ∧ m' 17 = m 17 ∧ n' 17 = n 17 ∧ m' 18 = m 18 := by
  obtain ⟨zs, ys, t1, t2, t3, t4, t5, t6, t7⟩ := hT
  obtain ⟨n', e, f1, f2⟩ := lm_u208 (sc := sc) (d := d) (m := m) (x := x) (n := n) t3 t4
  refine ⟨m, n', e, ?_, ⟨fun _ _ => rfl, fun q hq => f2 q (by omega) (by omega), fun _ _ => rfl, fun _ _ => by rw [f2 17 (by decide) (by decide)], rfl, rfl, f2 21 (by decide) (by decide)⟩, rfl, f2 17 (by decide) (by decide), rfl⟩
  intro i hi
  rw [f1]
  unfold lm_cpr
  rw [if_neg hk, if_neg (by decide)]
  exact lm_cc5_lo (fun t ht => (t7 t ht).symm) hS hb i hi
theorem lm_l145 {q v a l : Nat} {S : Nat → Int64} (hq : q < 17 ∨ 17 + 5 < q) (har : lm_ar q = some (1, v)) (hal : a + l ≤ v) (hv : v ≤ 70000) (hl : l ≤ 64) (hS : (∀ i, i < 8 → n 20 i = S i)) : ∀ j t, t + j = l → lm_rn sc d lm_m145.2.2.2.2.1 (lm_reg lm_m145.2.2.2.2.2) (32, [(0, .ref 17), (1, .ref q), (2, .int (Int32.ofNat a)), (3, .int (Int32.ofNat l)), (4, .int (Int32.ofNat t))], []) (lm_w (lm_fil m q a (a + t) (fun i => lm_o5 S (i - a))) n x) = some (.ok none, lm_w (lm_fil m q a (a + l) (fun i => lm_o5 S (i - a))) n x) := by
  intro j
  induction j with
  | zero =>
    intro t ht
    have ht : t = l := ht
    subst ht
    refine lm_e145_32 ?_
    unfold lm_q145_32
    exact lm_geT (by omega) (by omega) (by omega) rfl
  | succ j ih =>
    intro t ht
    have I := ih (t + 1) (by omega)
    rw [← Nat.add_assoc a t 1, ← lm_fl_step (g := fun i => lm_o5 S (i - a)) (by omega)] at I
    refine lm_e145_32 ?_
    unfold lm_q145_32
    refine lm_geF (by omega) (by omega) (by omega) ?_
    rw [lm_sh3 t (by omega), lm_an7 t (by omega), lm_oo]
    repeat (first
    | ((with_reducible apply lm_sI); exact rfl)
    | ((with_reducible apply lm_sR); exact rfl)
    | ((with_reducible apply lm_sS); exact rfl; exact rfl)
    | ((with_reducible apply lm_sL); exact rfl)
    | ((with_reducible apply lm_sP); exact rfl; exact rfl)
    | ((with_reducible apply lm_sPL); exact rfl; exact rfl)
    | ((with_reducible apply lm_sAA); exact rfl; first | exact rfl | exact lm_roO (by omega) | exact lm_roM (by omega))
    | ((with_reducible apply lm_sI); exact lm_fpL (by omega))
    | ((with_reducible apply lm_sR); exact lm_fpB (by omega))
    | ((with_reducible apply lm_sP); exact lm_fpL (by omega); exact rfl)
    | ((with_reducible apply lm_sS); exact lm_ocO (by omega); exact rfl)
    | ((with_reducible apply lm_sA); exact rfl; omega)
    | ((with_reducible apply lm_sJ); exact rfl; omega)
    | ((with_reducible apply lm_sB); (first | exact rfl | exact lm_arB (by omega) | exact lm_arM (by omega)); omega)
    | ((with_reducible apply lm_wA); exact rfl; omega)
    | ((with_reducible apply lm_wJ); exact rfl; omega)
    | ((with_reducible apply lm_wB); (first | exact rfl | exact lm_arB (by omega) | exact lm_arM (by omega)); omega)
    | ((with_reducible apply lm_sAl); (first | exact rfl | exact lm_arB (by omega) | exact lm_arM (by omega)); omega)
    | ((with_reducible apply lm_iW); decide))
    rw [hS (t / 8) (by omega)]
    refine lm_wB har (by omega) ?_
    rw [show Int32.ofNat t + Int32.ofInt 1 = Int32.ofNat (t + 1) from lm_oa t 1]
    rw [show lm_o5 S (a + t - a) = lm_b8 (Int64.toInt32 (lm_uL (S (t / 8)) (Int32.ofNat (56 - 8 * (t % 8))))) by rw [Nat.add_sub_cancel_left]; rfl] at I
    exact I
theorem lm_u145 {q v a l : Nat} (hT : lm_Tok sc T) (hq : q < 17 ∨ 17 + 5 < q) (har : lm_ar q = some (1, v)) (hal : a + l ≤ v) (hv : v ≤ 70000) (hl : l ≤ 64) (hf : h.1 < 128) (hC : lm_C17 m n k 128 h) (ht : n 17 3 = h.2.1) : ∃ m' n', lm_cal sc (d + 4) 145 [.ref 17, .ref q, .int (Int32.ofNat a), .int (Int32.ofNat l)] (lm_w m n x) = some (.ok none, lm_w (lm_fil m' q a (a + l) (fun i => lm_o5 (lm_hf T k 128 h).2.2.1 (i - a))) n' x) ∧ lm_fa 17 21 m n m' n' := by
  obtain ⟨c1, c2, c5, c6, c7, c8⟩ := hC
  have fmc : lm_fa 17 21 m n (lm_mc m 18 h.1 128) n := ⟨fun p hp => lm_mc_row (by omega), fun _ _ => rfl, fun i hi => by rw [lm_mc_row (by decide)], fun _ _ => rfl, lm_mc_row (by decide), lm_mc_row (by decide), rfl⟩
  have fmt : ∀ (m1 : lm_MI) (n1 : lm_ML) (b : Int64), lm_fa 17 21 m1 n1 (lm_mt m1 18 120 b) n1 := fun m1 n1 b => ⟨fun p hp => lm_mt_row (by omega), fun _ _ => rfl, fun i hi => by rw [lm_mt_row (by decide)], fun _ _ => rfl, lm_mt_row (by decide), lm_mt_row (by decide), rfl⟩
  have tail : ∀ (m1 : lm_MI) (n1 : lm_ML) (S : Nat → Int64) (b : Nat → Int32), m1 17 1 = Int32.ofNat 128 → n1 17 3 = h.2.1 → (∀ i, i < 8 → n1 20 i = S i) → (∀ i, i < 128 → lm_b8 (lm_mt m1 18 120 ((Int64.ofNat 8) * h.2.1) 18 i) = lm_b8 (b i)) → (∀ i, i < 8 → (lm_hf T k 128 h).2.2.1 i = lm_cpr T k 128 S b i) → ∃ m' n', lm_rn sc (d + 3) lm_m145.2.2.2.2.1 (lm_reg lm_m145.2.2.2.2.2) (21, [(0, .ref 17), (1, .ref q), (2, .int (Int32.ofNat a)), (3, .int (Int32.ofNat l))], []) (lm_w m1 n1 x) = some (.ok none, lm_w (lm_fil m' q a (a + l) (fun i => lm_o5 (lm_hf T k 128 h).2.2.1 (i - a))) n' x) ∧ lm_fa 17 21 m1 n1 m' n' := by
    intro m1 n1 S b g1 g2 g3 g4 g5
    obtain ⟨m2, n2, e2, s2, f2, _, _, _⟩ := lm_tk17 (sc := sc) (d := d + 1) (m := lm_mt m1 18 120 ((Int64.ofNat 8) * h.2.1)) (n := n1) (x := x) (T := T) (k := k) (S := S) (b := b) hT c1 (g3) g4
    refine ⟨m2, n2, ?_, (fmt m1 n1 _).tr f2⟩
    refine lm_e145_21 ?_
    unfold lm_q145_21
    repeat (first
    | ((with_reducible apply lm_sI); exact rfl)
    | ((with_reducible apply lm_sR); exact rfl)
    | ((with_reducible apply lm_sS); exact rfl; exact rfl)
    | ((with_reducible apply lm_sL); exact rfl)
    | ((with_reducible apply lm_sP); exact rfl; exact rfl)
    | ((with_reducible apply lm_sPL); exact rfl; exact rfl)
    | ((with_reducible apply lm_sAA); exact rfl; first | exact rfl | exact lm_roO (by omega) | exact lm_roM (by omega))
    | ((with_reducible apply lm_sI); exact lm_fpL (by omega))
    | ((with_reducible apply lm_sR); exact lm_fpB (by omega))
    | ((with_reducible apply lm_sP); exact lm_fpL (by omega); exact rfl)
    | ((with_reducible apply lm_sS); exact lm_ocO (by omega); exact rfl)
    | ((with_reducible apply lm_sA); exact rfl; omega)
    | ((with_reducible apply lm_sJ); exact rfl; omega)
    | ((with_reducible apply lm_sB); (first | exact rfl | exact lm_arB (by omega) | exact lm_arM (by omega)); omega)
    | ((with_reducible apply lm_wA); exact rfl; omega)
    | ((with_reducible apply lm_wJ); exact rfl; omega)
    | ((with_reducible apply lm_wB); (first | exact rfl | exact lm_arB (by omega) | exact lm_arM (by omega)); omega)
    | ((with_reducible apply lm_sAl); (first | exact rfl | exact lm_arB (by omega) | exact lm_arM (by omega)); omega)
    | ((with_reducible apply lm_iW); decide))
    refine lm_cV (lm_u214_17 (d := d + 1) g1 g2) ?_
    repeat (first
    | ((with_reducible apply lm_sI); exact rfl)
    | ((with_reducible apply lm_sR); exact rfl)
    | ((with_reducible apply lm_sS); exact rfl; exact rfl)
    | ((with_reducible apply lm_sL); exact rfl)
    | ((with_reducible apply lm_sP); exact rfl; exact rfl)
    | ((with_reducible apply lm_sPL); exact rfl; exact rfl)
    | ((with_reducible apply lm_sAA); exact rfl; first | exact rfl | exact lm_roO (by omega) | exact lm_roM (by omega))
    | ((with_reducible apply lm_sI); exact lm_fpL (by omega))
    | ((with_reducible apply lm_sR); exact lm_fpB (by omega))
    | ((with_reducible apply lm_sP); exact lm_fpL (by omega); exact rfl)
    | ((with_reducible apply lm_sS); exact lm_ocO (by omega); exact rfl)
    | ((with_reducible apply lm_sA); exact rfl; omega)
    | ((with_reducible apply lm_sJ); exact rfl; omega)
    | ((with_reducible apply lm_sB); (first | exact rfl | exact lm_arB (by omega) | exact lm_arM (by omega)); omega)
    | ((with_reducible apply lm_wA); exact rfl; omega)
    | ((with_reducible apply lm_wJ); exact rfl; omega)
    | ((with_reducible apply lm_wB); (first | exact rfl | exact lm_arB (by omega) | exact lm_arM (by omega)); omega)
    | ((with_reducible apply lm_sAl); (first | exact rfl | exact lm_arB (by omega) | exact lm_arM (by omega)); omega)
    | ((with_reducible apply lm_iW); decide))
    refine lm_cV e2 ?_
    have L := lm_l145 (sc := sc) (d := d + 3) (m := m2) (n := n2) (x := x) (S := (lm_hf T k 128 h).2.2.1) hq har hal hv hl (fun i hi => (s2 i hi).trans (by rw [g5 i hi])) l 0 (by omega)
    rw [Nat.add_zero a, lm_fl_nil] at L
    exact L
  by_cases c : h.1 + 1 + 16 ≤ 128
  · obtain ⟨m', n', e, f⟩ := tail (lm_mc m 18 h.1 128) n h.2.2.1 (lm_bA 128 h) (by rw [lm_mc_row (by decide)]; exact c5) ht (c7) (fun i hi => by
      unfold lm_mt
      rw [lm_ptq i (by omega), lm_mc_at hi]
      unfold lm_bA
      by_cases a1 : i < h.1
      · rw [if_pos (by omega), if_pos a1, if_pos a1]; exact c8 i a1
      · rw [if_neg a1, if_neg a1]
        by_cases a2 : i = h.1
        · rw [if_pos (by omega), if_pos a2, if_pos a2]; exact lm_128
        · rw [if_neg a2, if_neg a2]
          by_cases a3 : i < 120
          · rw [if_pos a3]
            by_cases a4 : i < 128 - 128 / 8
            · rw [if_pos a4]
            · rw [if_neg a4]
              unfold lm_gl
              rw [if_pos (by omega)]
          · rw [if_neg a3, if_neg (by omega)])
      (lm_hf_A c1 (by decide) c)
    refine ⟨m', n', ?_, fmc.tr f⟩
    refine lm_cal_of (Y := lm_m145) rfl rfl (lm_e145_0 ?_)
    unfold lm_q145_0
    rw [lm_K16]
    repeat (first
    | ((with_reducible apply lm_sI); exact rfl)
    | ((with_reducible apply lm_sR); exact rfl)
    | ((with_reducible apply lm_sS); exact rfl; exact rfl)
    | ((with_reducible apply lm_sL); exact rfl)
    | ((with_reducible apply lm_sP); exact rfl; exact rfl)
    | ((with_reducible apply lm_sPL); exact rfl; exact rfl)
    | ((with_reducible apply lm_sAA); exact rfl; first | exact rfl | exact lm_roO (by omega) | exact lm_roM (by omega))
    | ((with_reducible apply lm_sI); exact lm_fpL (by omega))
    | ((with_reducible apply lm_sR); exact lm_fpB (by omega))
    | ((with_reducible apply lm_sP); exact lm_fpL (by omega); exact rfl)
    | ((with_reducible apply lm_sS); exact lm_ocO (by omega); exact rfl)
    | ((with_reducible apply lm_sA); exact rfl; omega)
    | ((with_reducible apply lm_sJ); exact rfl; omega)
    | ((with_reducible apply lm_sB); (first | exact rfl | exact lm_arB (by omega) | exact lm_arM (by omega)); omega)
    | ((with_reducible apply lm_wA); exact rfl; omega)
    | ((with_reducible apply lm_wJ); exact rfl; omega)
    | ((with_reducible apply lm_wB); (first | exact rfl | exact lm_arB (by omega) | exact lm_arM (by omega)); omega)
    | ((with_reducible apply lm_sAl); (first | exact rfl | exact lm_arB (by omega) | exact lm_arM (by omega)); omega)
    | ((with_reducible apply lm_iW); decide))
    refine lm_cI (lm_u213_17 (d := d) hf (by decide) c5 c6) ?_
    rw [decide_eq_true c]
    exact lm_iT (show ¬ (1 : Int32) = 0 by decide) e
  · obtain ⟨m1, n1, e1, s1, f1, g1, g2, g3⟩ := lm_tk17 (sc := sc) (d := d + 1) (m := lm_mc m 18 h.1 128) (n := n) (x := x) (T := T) (k := k) (S := h.2.2.1) (b := lm_bB h) hT c1 (c7) (fun i hi => by
      rw [lm_mc_at hi]
      unfold lm_bB
      by_cases a1 : i < h.1
      · rw [if_pos a1, if_pos a1]; exact c8 i a1
      · rw [if_neg a1, if_neg a1]
        by_cases a2 : i = h.1
        · rw [if_pos a2, if_pos a2]; exact lm_128
        · rw [if_neg a2, if_neg a2])
    have f3 : lm_fa 17 21 m1 n1 (lm_fil m1 18 0 128 fun _ => Int32.ofInt 0) n1 := ⟨fun p hp => lm_fl_row (by omega), fun _ _ => rfl, fun i hi => by rw [lm_fl_row (by decide)], fun _ _ => rfl, lm_fl_row (by decide), lm_fl_row (by decide), rfl⟩
    obtain ⟨m', n', e, f⟩ := tail (lm_fil m1 18 0 128 fun _ => Int32.ofInt 0) n1 (lm_cpr T k 128 h.2.2.1 (lm_bB h)) (lm_bC 128 ((Int64.ofNat 8) * h.2.1)) (by rw [lm_fl_row (by decide), g1, lm_mc_row (by decide)]; exact c5) (by rw [g2]; exact ht) (s1) (fun i hi => by
      unfold lm_mt
      rw [lm_ptq i (by omega), lm_fl_in (by omega)]
      unfold lm_bC
      by_cases a3 : i < 120
      · rw [if_pos a3]
        by_cases a4 : i < 128 - 128 / 8
        · rw [if_pos a4]
        · rw [if_neg a4]
          unfold lm_gl
          rw [if_pos (by omega)]
      · rw [if_neg a3, if_neg (by omega)])
      (lm_hf_B c1 (by decide) hf c)
    refine ⟨m', n', ?_, ((fmc.tr f1).tr f3).tr f⟩
    refine lm_cal_of (Y := lm_m145) rfl rfl (lm_e145_0 ?_)
    unfold lm_q145_0
    rw [lm_K16]
    repeat (first
    | ((with_reducible apply lm_sI); exact rfl)
    | ((with_reducible apply lm_sR); exact rfl)
    | ((with_reducible apply lm_sS); exact rfl; exact rfl)
    | ((with_reducible apply lm_sL); exact rfl)
    | ((with_reducible apply lm_sP); exact rfl; exact rfl)
    | ((with_reducible apply lm_sPL); exact rfl; exact rfl)
    | ((with_reducible apply lm_sAA); exact rfl; first | exact rfl | exact lm_roO (by omega) | exact lm_roM (by omega))
    | ((with_reducible apply lm_sI); exact lm_fpL (by omega))
    | ((with_reducible apply lm_sR); exact lm_fpB (by omega))
    | ((with_reducible apply lm_sP); exact lm_fpL (by omega); exact rfl)
    | ((with_reducible apply lm_sS); exact lm_ocO (by omega); exact rfl)
    | ((with_reducible apply lm_sA); exact rfl; omega)
    | ((with_reducible apply lm_sJ); exact rfl; omega)
    | ((with_reducible apply lm_sB); (first | exact rfl | exact lm_arB (by omega) | exact lm_arM (by omega)); omega)
    | ((with_reducible apply lm_wA); exact rfl; omega)
    | ((with_reducible apply lm_wJ); exact rfl; omega)
    | ((with_reducible apply lm_wB); (first | exact rfl | exact lm_arB (by omega) | exact lm_arM (by omega)); omega)
    | ((with_reducible apply lm_sAl); (first | exact rfl | exact lm_arB (by omega) | exact lm_arM (by omega)); omega)
    | ((with_reducible apply lm_iW); decide))
    refine lm_cI (lm_u213_17 (d := d) hf (by decide) c5 c6) ?_
    rw [decide_eq_false c]
    refine lm_iF (show ¬ ¬ (0 : Int32) = 0 by decide) ?_
    repeat (first
    | ((with_reducible apply lm_sI); exact rfl)
    | ((with_reducible apply lm_sR); exact rfl)
    | ((with_reducible apply lm_sS); exact rfl; exact rfl)
    | ((with_reducible apply lm_sL); exact rfl)
    | ((with_reducible apply lm_sP); exact rfl; exact rfl)
    | ((with_reducible apply lm_sPL); exact rfl; exact rfl)
    | ((with_reducible apply lm_sAA); exact rfl; first | exact rfl | exact lm_roO (by omega) | exact lm_roM (by omega))
    | ((with_reducible apply lm_sI); exact lm_fpL (by omega))
    | ((with_reducible apply lm_sR); exact lm_fpB (by omega))
    | ((with_reducible apply lm_sP); exact lm_fpL (by omega); exact rfl)
    | ((with_reducible apply lm_sS); exact lm_ocO (by omega); exact rfl)
    | ((with_reducible apply lm_sA); exact rfl; omega)
    | ((with_reducible apply lm_sJ); exact rfl; omega)
    | ((with_reducible apply lm_sB); (first | exact rfl | exact lm_arB (by omega) | exact lm_arM (by omega)); omega)
    | ((with_reducible apply lm_wA); exact rfl; omega)
    | ((with_reducible apply lm_wJ); exact rfl; omega)
    | ((with_reducible apply lm_wB); (first | exact rfl | exact lm_arB (by omega) | exact lm_arM (by omega)); omega)
    | ((with_reducible apply lm_sAl); (first | exact rfl | exact lm_arB (by omega) | exact lm_arM (by omega)); omega)
    | ((with_reducible apply lm_iW); decide))
    refine lm_cV e1 ?_
    repeat (first
    | ((with_reducible apply lm_sI); exact rfl)
    | ((with_reducible apply lm_sR); exact rfl)
    | ((with_reducible apply lm_sS); exact rfl; exact rfl)
    | ((with_reducible apply lm_sL); exact rfl)
    | ((with_reducible apply lm_sP); exact rfl; exact rfl)
    | ((with_reducible apply lm_sPL); exact rfl; exact rfl)
    | ((with_reducible apply lm_sAA); exact rfl; first | exact rfl | exact lm_roO (by omega) | exact lm_roM (by omega))
    | ((with_reducible apply lm_sI); exact lm_fpL (by omega))
    | ((with_reducible apply lm_sR); exact lm_fpB (by omega))
    | ((with_reducible apply lm_sP); exact lm_fpL (by omega); exact rfl)
    | ((with_reducible apply lm_sS); exact lm_ocO (by omega); exact rfl)
    | ((with_reducible apply lm_sA); exact rfl; omega)
    | ((with_reducible apply lm_sJ); exact rfl; omega)
    | ((with_reducible apply lm_sB); (first | exact rfl | exact lm_arB (by omega) | exact lm_arM (by omega)); omega)
    | ((with_reducible apply lm_wA); exact rfl; omega)
    | ((with_reducible apply lm_wJ); exact rfl; omega)
    | ((with_reducible apply lm_wB); (first | exact rfl | exact lm_arB (by omega) | exact lm_arM (by omega)); omega)
    | ((with_reducible apply lm_sAl); (first | exact rfl | exact lm_arB (by omega) | exact lm_arM (by omega)); omega)
    | ((with_reducible apply lm_iW); decide))
    refine lm_cV (lm_u199 (d := d + 2) rfl) ?_
    exact e
end LMFN
