/-! ===== feed, end, copy, resize of both ===== -/
theorem lm_rd {α : Type} {m : Nat → Nat → α} {q a q' a' : Nat} {v : α} : lm_u m q a v q' a' = if q' = q ∧ a' = a then v else m q' a' := rfl
theorem lm_rf {α : Type} {m : Nat → Nat → α} {q a b q' i : Nat} {g : Nat → α} : lm_fil m q a b g q' i = if q' = q ∧ a ≤ i ∧ i < b then g i else m q' i := rfl
theorem lm_rc {α : Type} {m : Nat → Nat → α} {q b p a n q' i : Nat} : lm_cp m q b p a n q' i = if q' = q ∧ b ≤ i ∧ i < b + n then m p (i - b + a) else m q' i := rfl
/-- the four bytes of v, the highest first, laid at a -/
def lm_pt (m : lm_MI) (q a : Nat) (v : Int32) : lm_MI := lm_u (lm_u (lm_u (lm_u m q a (lm_b8 (v >>> 24))) q (a + 1) (lm_b8 (v >>> 16))) q (a + 2) (lm_b8 (v >>> 8))) q (a + 3) (lm_b8 v)
theorem lm_pt_row {m : lm_MI} {q a p : Nat} {v : Int32} (h : p ≠ q) : lm_pt m q a v p = m p := by
  unfold lm_pt
  rw [lm_u_row h, lm_u_row h, lm_u_row h, lm_u_row h]
theorem lm_sh0 (v : Int32) : v >>> (0 : Int32) = v := by
  apply Int32.toBitVec_inj.mp
  simp
section LMCL
variable {sc : lm_H} {d i j c l a : Nat} {m : lm_MI} {n : lm_ML} {x : lm_H × Nat × Nat} {v w : Int32}
theorem lm_u131 {q k : Nat} (ht : lm_ar q = some (1, k)) (ha : a + 4 ≤ k) : lm_cal sc (d + 1) 131 [.int v, .ref q, .int (Int32.ofNat a)] (lm_w m n x) = some (.ok none, lm_w (lm_pt m q a v) n x) := by
  refine lm_cal_of (Y := lm_m131) rfl rfl (lm_e131_0 ?_)
  unfold lm_q131_0
  simp only [show Int32.ofNat a + Int32.ofInt 1 = Int32.ofNat (a + 1) from lm_oa a 1, show Int32.ofNat a + Int32.ofInt 2 = Int32.ofNat (a + 2) from lm_oa a 2, show Int32.ofNat a + Int32.ofInt 3 = Int32.ofNat (a + 3) from lm_oa a 3]
  refine lm_wB ht (by omega) (lm_wB ht (by omega) (lm_wB ht (by omega) (lm_wB ht (by omega) ?_)))
  exact rfl
theorem lm_u48 {v1 v2 v3 v4 v5 : Int32} (h : m 2 1 = Int32.ofNat a) (ha : a + 20 ≤ 65536) : lm_cal sc (d + 2) 48 [.ref 0, .int v1, .int v2, .int v3, .int v4, .int v5] (lm_w m n x) = some (.ok (some (.int (Int32.ofNat (a + 20)))), lm_w (lm_u (lm_pt (lm_pt (lm_pt (lm_pt (lm_pt m 3 a v1) 3 (a + 4) v2) 3 (a + 8) v3) 3 (a + 12) v4) 3 (a + 16) v5) 2 1 (Int32.ofNat (a + 20))) n x) := by
  have e : ∀ (m : lm_MI) (k : Nat) (v : Int32), lm_pt m 3 k v 2 = m 2 := fun m k v => lm_pt_row (by decide)
  refine lm_cal_of (Y := lm_m48) rfl rfl (lm_e48_0 ?_)
  unfold lm_q48_0
  simp only [lm_K20, lm_K4, lm_K8, lm_K12, lm_K16, lm_K65536]
  repeat (first
    | ((with_reducible apply lm_sI); exact rfl)
    | ((with_reducible apply lm_sR); exact rfl)
    | ((with_reducible apply lm_sS); exact rfl; exact rfl)
    | ((with_reducible apply lm_sL); exact rfl)
    | ((with_reducible apply lm_sP); exact rfl; exact rfl)
    | ((with_reducible apply lm_sPL); exact rfl; exact rfl)
    | ((with_reducible apply lm_sAA); exact rfl; first | exact rfl | exact lm_roO (by omega) | exact lm_roM (by omega))
    | ((with_reducible apply lm_sI); exact lm_fpL (by omega))
    | ((with_reducible apply lm_sR); exact lm_fpB (by omega))
    | ((with_reducible apply lm_sP); exact lm_fpL (by omega); exact rfl)
    | ((with_reducible apply lm_sS); exact lm_ocO (by omega); exact rfl)
    | ((with_reducible apply lm_sA); exact rfl; omega)
    | ((with_reducible apply lm_sJ); exact rfl; omega)
    | ((with_reducible apply lm_sB); (first | exact rfl | exact lm_arB (by omega) | exact lm_arM (by omega)); omega)
    | ((with_reducible apply lm_wA); exact rfl; omega)
    | ((with_reducible apply lm_wJ); exact rfl; omega)
    | ((with_reducible apply lm_wB); (first | exact rfl | exact lm_arB (by omega) | exact lm_arM (by omega)); omega)
    | ((with_reducible apply lm_sAl); (first | exact rfl | exact lm_arB (by omega) | exact lm_arM (by omega)); omega)
    | ((with_reducible apply lm_iW); decide))
  simp only [Nat.reduceDiv, Nat.reduceMod, h, lm_oo]
  refine lm_leT (by omega) (by omega) ha ?_
  repeat (first
    | ((with_reducible apply lm_sI); exact rfl)
    | ((with_reducible apply lm_sR); exact rfl)
    | ((with_reducible apply lm_sS); exact rfl; exact rfl)
    | ((with_reducible apply lm_sL); exact rfl)
    | ((with_reducible apply lm_sP); exact rfl; exact rfl)
    | ((with_reducible apply lm_sPL); exact rfl; exact rfl)
    | ((with_reducible apply lm_sAA); exact rfl; first | exact rfl | exact lm_roO (by omega) | exact lm_roM (by omega))
    | ((with_reducible apply lm_sI); exact lm_fpL (by omega))
    | ((with_reducible apply lm_sR); exact lm_fpB (by omega))
    | ((with_reducible apply lm_sP); exact lm_fpL (by omega); exact rfl)
    | ((with_reducible apply lm_sS); exact lm_ocO (by omega); exact rfl)
    | ((with_reducible apply lm_sA); exact rfl; omega)
    | ((with_reducible apply lm_sJ); exact rfl; omega)
    | ((with_reducible apply lm_sB); (first | exact rfl | exact lm_arB (by omega) | exact lm_arM (by omega)); omega)
    | ((with_reducible apply lm_wA); exact rfl; omega)
    | ((with_reducible apply lm_wJ); exact rfl; omega)
    | ((with_reducible apply lm_wB); (first | exact rfl | exact lm_arB (by omega) | exact lm_arM (by omega)); omega)
    | ((with_reducible apply lm_sAl); (first | exact rfl | exact lm_arB (by omega) | exact lm_arM (by omega)); omega)
    | ((with_reducible apply lm_iW); decide))
  simp only [Nat.reduceDiv, Nat.reduceMod, h]
  refine lm_cV (lm_u131 (k := 65536) rfl (by omega)) ?_
  repeat (first
    | ((with_reducible apply lm_sI); exact rfl)
    | ((with_reducible apply lm_sR); exact rfl)
    | ((with_reducible apply lm_sS); exact rfl; exact rfl)
    | ((with_reducible apply lm_sL); exact rfl)
    | ((with_reducible apply lm_sP); exact rfl; exact rfl)
    | ((with_reducible apply lm_sPL); exact rfl; exact rfl)
    | ((with_reducible apply lm_sAA); exact rfl; first | exact rfl | exact lm_roO (by omega) | exact lm_roM (by omega))
    | ((with_reducible apply lm_sI); exact lm_fpL (by omega))
    | ((with_reducible apply lm_sR); exact lm_fpB (by omega))
    | ((with_reducible apply lm_sP); exact lm_fpL (by omega); exact rfl)
    | ((with_reducible apply lm_sS); exact lm_ocO (by omega); exact rfl)
    | ((with_reducible apply lm_sA); exact rfl; omega)
    | ((with_reducible apply lm_sJ); exact rfl; omega)
    | ((with_reducible apply lm_sB); (first | exact rfl | exact lm_arB (by omega) | exact lm_arM (by omega)); omega)
    | ((with_reducible apply lm_wA); exact rfl; omega)
    | ((with_reducible apply lm_wJ); exact rfl; omega)
    | ((with_reducible apply lm_wB); (first | exact rfl | exact lm_arB (by omega) | exact lm_arM (by omega)); omega)
    | ((with_reducible apply lm_sAl); (first | exact rfl | exact lm_arB (by omega) | exact lm_arM (by omega)); omega)
    | ((with_reducible apply lm_iW); decide))
  simp only [Nat.reduceDiv, Nat.reduceMod, e, h, lm_oo]
  refine lm_cV (lm_u131 (k := 65536) rfl (by omega)) ?_
  repeat (first
    | ((with_reducible apply lm_sI); exact rfl)
    | ((with_reducible apply lm_sR); exact rfl)
    | ((with_reducible apply lm_sS); exact rfl; exact rfl)
    | ((with_reducible apply lm_sL); exact rfl)
    | ((with_reducible apply lm_sP); exact rfl; exact rfl)
    | ((with_reducible apply lm_sPL); exact rfl; exact rfl)
    | ((with_reducible apply lm_sAA); exact rfl; first | exact rfl | exact lm_roO (by omega) | exact lm_roM (by omega))
    | ((with_reducible apply lm_sI); exact lm_fpL (by omega))
    | ((with_reducible apply lm_sR); exact lm_fpB (by omega))
    | ((with_reducible apply lm_sP); exact lm_fpL (by omega); exact rfl)
    | ((with_reducible apply lm_sS); exact lm_ocO (by omega); exact rfl)
    | ((with_reducible apply lm_sA); exact rfl; omega)
    | ((with_reducible apply lm_sJ); exact rfl; omega)
    | ((with_reducible apply lm_sB); (first | exact rfl | exact lm_arB (by omega) | exact lm_arM (by omega)); omega)
    | ((with_reducible apply lm_wA); exact rfl; omega)
    | ((with_reducible apply lm_wJ); exact rfl; omega)
    | ((with_reducible apply lm_wB); (first | exact rfl | exact lm_arB (by omega) | exact lm_arM (by omega)); omega)
    | ((with_reducible apply lm_sAl); (first | exact rfl | exact lm_arB (by omega) | exact lm_arM (by omega)); omega)
    | ((with_reducible apply lm_iW); decide))
  simp only [Nat.reduceDiv, Nat.reduceMod, e, h, lm_oo]
  refine lm_cV (lm_u131 (k := 65536) rfl (by omega)) ?_
  repeat (first
    | ((with_reducible apply lm_sI); exact rfl)
    | ((with_reducible apply lm_sR); exact rfl)
    | ((with_reducible apply lm_sS); exact rfl; exact rfl)
    | ((with_reducible apply lm_sL); exact rfl)
    | ((with_reducible apply lm_sP); exact rfl; exact rfl)
    | ((with_reducible apply lm_sPL); exact rfl; exact rfl)
    | ((with_reducible apply lm_sAA); exact rfl; first | exact rfl | exact lm_roO (by omega) | exact lm_roM (by omega))
    | ((with_reducible apply lm_sI); exact lm_fpL (by omega))
    | ((with_reducible apply lm_sR); exact lm_fpB (by omega))
    | ((with_reducible apply lm_sP); exact lm_fpL (by omega); exact rfl)
    | ((with_reducible apply lm_sS); exact lm_ocO (by omega); exact rfl)
    | ((with_reducible apply lm_sA); exact rfl; omega)
    | ((with_reducible apply lm_sJ); exact rfl; omega)
    | ((with_reducible apply lm_sB); (first | exact rfl | exact lm_arB (by omega) | exact lm_arM (by omega)); omega)
    | ((with_reducible apply lm_wA); exact rfl; omega)
    | ((with_reducible apply lm_wJ); exact rfl; omega)
    | ((with_reducible apply lm_wB); (first | exact rfl | exact lm_arB (by omega) | exact lm_arM (by omega)); omega)
    | ((with_reducible apply lm_sAl); (first | exact rfl | exact lm_arB (by omega) | exact lm_arM (by omega)); omega)
    | ((with_reducible apply lm_iW); decide))
  simp only [Nat.reduceDiv, Nat.reduceMod, e, h, lm_oo]
  refine lm_cV (lm_u131 (k := 65536) rfl (by omega)) ?_
  repeat (first
    | ((with_reducible apply lm_sI); exact rfl)
    | ((with_reducible apply lm_sR); exact rfl)
    | ((with_reducible apply lm_sS); exact rfl; exact rfl)
    | ((with_reducible apply lm_sL); exact rfl)
    | ((with_reducible apply lm_sP); exact rfl; exact rfl)
    | ((with_reducible apply lm_sPL); exact rfl; exact rfl)
    | ((with_reducible apply lm_sAA); exact rfl; first | exact rfl | exact lm_roO (by omega) | exact lm_roM (by omega))
    | ((with_reducible apply lm_sI); exact lm_fpL (by omega))
    | ((with_reducible apply lm_sR); exact lm_fpB (by omega))
    | ((with_reducible apply lm_sP); exact lm_fpL (by omega); exact rfl)
    | ((with_reducible apply lm_sS); exact lm_ocO (by omega); exact rfl)
    | ((with_reducible apply lm_sA); exact rfl; omega)
    | ((with_reducible apply lm_sJ); exact rfl; omega)
    | ((with_reducible apply lm_sB); (first | exact rfl | exact lm_arB (by omega) | exact lm_arM (by omega)); omega)
    | ((with_reducible apply lm_wA); exact rfl; omega)
    | ((with_reducible apply lm_wJ); exact rfl; omega)
    | ((with_reducible apply lm_wB); (first | exact rfl | exact lm_arB (by omega) | exact lm_arM (by omega)); omega)
    | ((with_reducible apply lm_sAl); (first | exact rfl | exact lm_arB (by omega) | exact lm_arM (by omega)); omega)
    | ((with_reducible apply lm_iW); decide))
  simp only [Nat.reduceDiv, Nat.reduceMod, e, h, lm_oo]
  refine lm_cV (lm_u131 (k := 65536) rfl (by omega)) ?_
  repeat (first
    | ((with_reducible apply lm_sI); exact rfl)
    | ((with_reducible apply lm_sR); exact rfl)
    | ((with_reducible apply lm_sS); exact rfl; exact rfl)
    | ((with_reducible apply lm_sL); exact rfl)
    | ((with_reducible apply lm_sP); exact rfl; exact rfl)
    | ((with_reducible apply lm_sPL); exact rfl; exact rfl)
    | ((with_reducible apply lm_sAA); exact rfl; first | exact rfl | exact lm_roO (by omega) | exact lm_roM (by omega))
    | ((with_reducible apply lm_sI); exact lm_fpL (by omega))
    | ((with_reducible apply lm_sR); exact lm_fpB (by omega))
    | ((with_reducible apply lm_sP); exact lm_fpL (by omega); exact rfl)
    | ((with_reducible apply lm_sS); exact lm_ocO (by omega); exact rfl)
    | ((with_reducible apply lm_sA); exact rfl; omega)
    | ((with_reducible apply lm_sJ); exact rfl; omega)
    | ((with_reducible apply lm_sB); (first | exact rfl | exact lm_arB (by omega) | exact lm_arM (by omega)); omega)
    | ((with_reducible apply lm_wA); exact rfl; omega)
    | ((with_reducible apply lm_wJ); exact rfl; omega)
    | ((with_reducible apply lm_wB); (first | exact rfl | exact lm_arB (by omega) | exact lm_arM (by omega)); omega)
    | ((with_reducible apply lm_sAl); (first | exact rfl | exact lm_arB (by omega) | exact lm_arM (by omega)); omega)
    | ((with_reducible apply lm_iW); decide))
  simp only [Nat.reduceDiv, Nat.reduceMod, e, h, lm_oo, lm_u_eq]
  exact rfl
theorem lm_u48e {v1 v2 v3 v4 v5 : Int32} (h : m 2 1 = Int32.ofNat a) (ha : ¬ a + 20 ≤ 65536) (hl : a ≤ 65536) (hr : lm_rom x) : lm_cal sc (d + 2) 48 [.ref 0, .int v1, .int v2, .int v3, .int v4, .int v5] (lm_w m n x) = some (.error (lm_xp x), lm_w m n (lm_xx 12 x)) := by
  refine lm_cal_of (Y := lm_m48) rfl rfl (lm_e48_0 ?_)
  unfold lm_q48_0
  simp only [lm_K20, lm_K4, lm_K8, lm_K12, lm_K16, lm_K65536]
  repeat (first
    | ((with_reducible apply lm_sI); exact rfl)
    | ((with_reducible apply lm_sR); exact rfl)
    | ((with_reducible apply lm_sS); exact rfl; exact rfl)
    | ((with_reducible apply lm_sL); exact rfl)
    | ((with_reducible apply lm_sP); exact rfl; exact rfl)
    | ((with_reducible apply lm_sPL); exact rfl; exact rfl)
    | ((with_reducible apply lm_sAA); exact rfl; first | exact rfl | exact lm_roO (by omega) | exact lm_roM (by omega))
    | ((with_reducible apply lm_sI); exact lm_fpL (by omega))
    | ((with_reducible apply lm_sR); exact lm_fpB (by omega))
    | ((with_reducible apply lm_sP); exact lm_fpL (by omega); exact rfl)
    | ((with_reducible apply lm_sS); exact lm_ocO (by omega); exact rfl)
    | ((with_reducible apply lm_sA); exact rfl; omega)
    | ((with_reducible apply lm_sJ); exact rfl; omega)
    | ((with_reducible apply lm_sB); (first | exact rfl | exact lm_arB (by omega) | exact lm_arM (by omega)); omega)
    | ((with_reducible apply lm_wA); exact rfl; omega)
    | ((with_reducible apply lm_wJ); exact rfl; omega)
    | ((with_reducible apply lm_wB); (first | exact rfl | exact lm_arB (by omega) | exact lm_arM (by omega)); omega)
    | ((with_reducible apply lm_sAl); (first | exact rfl | exact lm_arB (by omega) | exact lm_arM (by omega)); omega)
    | ((with_reducible apply lm_iW); decide))
  simp only [Nat.reduceDiv, Nat.reduceMod, h, lm_oo]
  exact lm_leF (by omega) (by omega) ha (lm_wT hr)
theorem lm_u50 (h : m 203 3 = Int32.ofNat a) (ha : a + 4 ≤ 65536) : lm_cal sc (d + 1) 50 [.ref 203, .int v] (lm_w m n x) = some (.ok none, lm_w (lm_u (lm_pt m 204 a v) 203 3 (Int32.ofNat (a + 4))) n x) := by
  refine lm_cal_of (Y := lm_m50) rfl rfl (lm_e50_0 ?_)
  unfold lm_q50_0
  refine lm_e50_2 ?_
  unfold lm_q50_2
  simp only [lm_K0, lm_K1, lm_K4, lm_K8, lm_K24]
  refine lm_geF (by omega) (by omega) (by omega) ?_
  repeat (first
    | ((with_reducible apply lm_sI); exact rfl)
    | ((with_reducible apply lm_sR); exact rfl)
    | ((with_reducible apply lm_sS); exact rfl; exact rfl)
    | ((with_reducible apply lm_sL); exact rfl)
    | ((with_reducible apply lm_sP); exact rfl; exact rfl)
    | ((with_reducible apply lm_sPL); exact rfl; exact rfl)
    | ((with_reducible apply lm_sAA); exact rfl; first | exact rfl | exact lm_roO (by omega) | exact lm_roM (by omega))
    | ((with_reducible apply lm_sI); exact lm_fpL (by omega))
    | ((with_reducible apply lm_sR); exact lm_fpB (by omega))
    | ((with_reducible apply lm_sP); exact lm_fpL (by omega); exact rfl)
    | ((with_reducible apply lm_sS); exact lm_ocO (by omega); exact rfl)
    | ((with_reducible apply lm_sA); exact rfl; omega)
    | ((with_reducible apply lm_sJ); exact rfl; omega)
    | ((with_reducible apply lm_sB); (first | exact rfl | exact lm_arB (by omega) | exact lm_arM (by omega)); omega)
    | ((with_reducible apply lm_wA); exact rfl; omega)
    | ((with_reducible apply lm_wJ); exact rfl; omega)
    | ((with_reducible apply lm_wB); (first | exact rfl | exact lm_arB (by omega) | exact lm_arM (by omega)); omega)
    | ((with_reducible apply lm_sAl); (first | exact rfl | exact lm_arB (by omega) | exact lm_arM (by omega)); omega)
    | ((with_reducible apply lm_iW); decide))
  simp only [Nat.reduceDiv, Nat.reduceMod, h, lm_oo]
  repeat (first
    | ((with_reducible apply lm_sI); exact rfl)
    | ((with_reducible apply lm_sR); exact rfl)
    | ((with_reducible apply lm_sS); exact rfl; exact rfl)
    | ((with_reducible apply lm_sL); exact rfl)
    | ((with_reducible apply lm_sP); exact rfl; exact rfl)
    | ((with_reducible apply lm_sPL); exact rfl; exact rfl)
    | ((with_reducible apply lm_sAA); exact rfl; first | exact rfl | exact lm_roO (by omega) | exact lm_roM (by omega))
    | ((with_reducible apply lm_sI); exact lm_fpL (by omega))
    | ((with_reducible apply lm_sR); exact lm_fpB (by omega))
    | ((with_reducible apply lm_sP); exact lm_fpL (by omega); exact rfl)
    | ((with_reducible apply lm_sS); exact lm_ocO (by omega); exact rfl)
    | ((with_reducible apply lm_sA); exact rfl; omega)
    | ((with_reducible apply lm_sJ); exact rfl; omega)
    | ((with_reducible apply lm_sB); (first | exact rfl | exact lm_arB (by omega) | exact lm_arM (by omega)); omega)
    | ((with_reducible apply lm_wA); exact rfl; omega)
    | ((with_reducible apply lm_wJ); exact rfl; omega)
    | ((with_reducible apply lm_wB); (first | exact rfl | exact lm_arB (by omega) | exact lm_arM (by omega)); omega)
    | ((with_reducible apply lm_sAl); (first | exact rfl | exact lm_arB (by omega) | exact lm_arM (by omega)); omega)
    | ((with_reducible apply lm_iW); decide))
  refine lm_e50_2 ?_
  unfold lm_q50_2
  simp only [lm_K0, lm_K1, lm_K4, lm_K8, lm_K24]
  refine lm_geF (by omega) (by omega) (by omega) ?_
  repeat (first
    | ((with_reducible apply lm_sI); exact rfl)
    | ((with_reducible apply lm_sR); exact rfl)
    | ((with_reducible apply lm_sS); exact rfl; exact rfl)
    | ((with_reducible apply lm_sL); exact rfl)
    | ((with_reducible apply lm_sP); exact rfl; exact rfl)
    | ((with_reducible apply lm_sPL); exact rfl; exact rfl)
    | ((with_reducible apply lm_sAA); exact rfl; first | exact rfl | exact lm_roO (by omega) | exact lm_roM (by omega))
    | ((with_reducible apply lm_sI); exact lm_fpL (by omega))
    | ((with_reducible apply lm_sR); exact lm_fpB (by omega))
    | ((with_reducible apply lm_sP); exact lm_fpL (by omega); exact rfl)
    | ((with_reducible apply lm_sS); exact lm_ocO (by omega); exact rfl)
    | ((with_reducible apply lm_sA); exact rfl; omega)
    | ((with_reducible apply lm_sJ); exact rfl; omega)
    | ((with_reducible apply lm_sB); (first | exact rfl | exact lm_arB (by omega) | exact lm_arM (by omega)); omega)
    | ((with_reducible apply lm_wA); exact rfl; omega)
    | ((with_reducible apply lm_wJ); exact rfl; omega)
    | ((with_reducible apply lm_wB); (first | exact rfl | exact lm_arB (by omega) | exact lm_arM (by omega)); omega)
    | ((with_reducible apply lm_sAl); (first | exact rfl | exact lm_arB (by omega) | exact lm_arM (by omega)); omega)
    | ((with_reducible apply lm_iW); decide))
  simp only [Nat.reduceDiv, Nat.reduceMod, lm_rd, Nat.reduceEqDiff, false_and, if_false, h, lm_oo]
  repeat (first
    | ((with_reducible apply lm_sI); exact rfl)
    | ((with_reducible apply lm_sR); exact rfl)
    | ((with_reducible apply lm_sS); exact rfl; exact rfl)
    | ((with_reducible apply lm_sL); exact rfl)
    | ((with_reducible apply lm_sP); exact rfl; exact rfl)
    | ((with_reducible apply lm_sPL); exact rfl; exact rfl)
    | ((with_reducible apply lm_sAA); exact rfl; first | exact rfl | exact lm_roO (by omega) | exact lm_roM (by omega))
    | ((with_reducible apply lm_sI); exact lm_fpL (by omega))
    | ((with_reducible apply lm_sR); exact lm_fpB (by omega))
    | ((with_reducible apply lm_sP); exact lm_fpL (by omega); exact rfl)
    | ((with_reducible apply lm_sS); exact lm_ocO (by omega); exact rfl)
    | ((with_reducible apply lm_sA); exact rfl; omega)
    | ((with_reducible apply lm_sJ); exact rfl; omega)
    | ((with_reducible apply lm_sB); (first | exact rfl | exact lm_arB (by omega) | exact lm_arM (by omega)); omega)
    | ((with_reducible apply lm_wA); exact rfl; omega)
    | ((with_reducible apply lm_wJ); exact rfl; omega)
    | ((with_reducible apply lm_wB); (first | exact rfl | exact lm_arB (by omega) | exact lm_arM (by omega)); omega)
    | ((with_reducible apply lm_sAl); (first | exact rfl | exact lm_arB (by omega) | exact lm_arM (by omega)); omega)
    | ((with_reducible apply lm_iW); decide))
  refine lm_e50_2 ?_
  unfold lm_q50_2
  simp only [lm_K0, lm_K1, lm_K4, lm_K8, lm_K24]
  refine lm_geF (by omega) (by omega) (by omega) ?_
  repeat (first
    | ((with_reducible apply lm_sI); exact rfl)
    | ((with_reducible apply lm_sR); exact rfl)
    | ((with_reducible apply lm_sS); exact rfl; exact rfl)
    | ((with_reducible apply lm_sL); exact rfl)
    | ((with_reducible apply lm_sP); exact rfl; exact rfl)
    | ((with_reducible apply lm_sPL); exact rfl; exact rfl)
    | ((with_reducible apply lm_sAA); exact rfl; first | exact rfl | exact lm_roO (by omega) | exact lm_roM (by omega))
    | ((with_reducible apply lm_sI); exact lm_fpL (by omega))
    | ((with_reducible apply lm_sR); exact lm_fpB (by omega))
    | ((with_reducible apply lm_sP); exact lm_fpL (by omega); exact rfl)
    | ((with_reducible apply lm_sS); exact lm_ocO (by omega); exact rfl)
    | ((with_reducible apply lm_sA); exact rfl; omega)
    | ((with_reducible apply lm_sJ); exact rfl; omega)
    | ((with_reducible apply lm_sB); (first | exact rfl | exact lm_arB (by omega) | exact lm_arM (by omega)); omega)
    | ((with_reducible apply lm_wA); exact rfl; omega)
    | ((with_reducible apply lm_wJ); exact rfl; omega)
    | ((with_reducible apply lm_wB); (first | exact rfl | exact lm_arB (by omega) | exact lm_arM (by omega)); omega)
    | ((with_reducible apply lm_sAl); (first | exact rfl | exact lm_arB (by omega) | exact lm_arM (by omega)); omega)
    | ((with_reducible apply lm_iW); decide))
  simp only [Nat.reduceDiv, Nat.reduceMod, lm_rd, Nat.reduceEqDiff, false_and, if_false, h, lm_oo]
  repeat (first
    | ((with_reducible apply lm_sI); exact rfl)
    | ((with_reducible apply lm_sR); exact rfl)
    | ((with_reducible apply lm_sS); exact rfl; exact rfl)
    | ((with_reducible apply lm_sL); exact rfl)
    | ((with_reducible apply lm_sP); exact rfl; exact rfl)
    | ((with_reducible apply lm_sPL); exact rfl; exact rfl)
    | ((with_reducible apply lm_sAA); exact rfl; first | exact rfl | exact lm_roO (by omega) | exact lm_roM (by omega))
    | ((with_reducible apply lm_sI); exact lm_fpL (by omega))
    | ((with_reducible apply lm_sR); exact lm_fpB (by omega))
    | ((with_reducible apply lm_sP); exact lm_fpL (by omega); exact rfl)
    | ((with_reducible apply lm_sS); exact lm_ocO (by omega); exact rfl)
    | ((with_reducible apply lm_sA); exact rfl; omega)
    | ((with_reducible apply lm_sJ); exact rfl; omega)
    | ((with_reducible apply lm_sB); (first | exact rfl | exact lm_arB (by omega) | exact lm_arM (by omega)); omega)
    | ((with_reducible apply lm_wA); exact rfl; omega)
    | ((with_reducible apply lm_wJ); exact rfl; omega)
    | ((with_reducible apply lm_wB); (first | exact rfl | exact lm_arB (by omega) | exact lm_arM (by omega)); omega)
    | ((with_reducible apply lm_sAl); (first | exact rfl | exact lm_arB (by omega) | exact lm_arM (by omega)); omega)
    | ((with_reducible apply lm_iW); decide))
  refine lm_e50_2 ?_
  unfold lm_q50_2
  simp only [lm_K0, lm_K1, lm_K4, lm_K8, lm_K24]
  refine lm_geF (by omega) (by omega) (by omega) ?_
  repeat (first
    | ((with_reducible apply lm_sI); exact rfl)
    | ((with_reducible apply lm_sR); exact rfl)
    | ((with_reducible apply lm_sS); exact rfl; exact rfl)
    | ((with_reducible apply lm_sL); exact rfl)
    | ((with_reducible apply lm_sP); exact rfl; exact rfl)
    | ((with_reducible apply lm_sPL); exact rfl; exact rfl)
    | ((with_reducible apply lm_sAA); exact rfl; first | exact rfl | exact lm_roO (by omega) | exact lm_roM (by omega))
    | ((with_reducible apply lm_sI); exact lm_fpL (by omega))
    | ((with_reducible apply lm_sR); exact lm_fpB (by omega))
    | ((with_reducible apply lm_sP); exact lm_fpL (by omega); exact rfl)
    | ((with_reducible apply lm_sS); exact lm_ocO (by omega); exact rfl)
    | ((with_reducible apply lm_sA); exact rfl; omega)
    | ((with_reducible apply lm_sJ); exact rfl; omega)
    | ((with_reducible apply lm_sB); (first | exact rfl | exact lm_arB (by omega) | exact lm_arM (by omega)); omega)
    | ((with_reducible apply lm_wA); exact rfl; omega)
    | ((with_reducible apply lm_wJ); exact rfl; omega)
    | ((with_reducible apply lm_wB); (first | exact rfl | exact lm_arB (by omega) | exact lm_arM (by omega)); omega)
    | ((with_reducible apply lm_sAl); (first | exact rfl | exact lm_arB (by omega) | exact lm_arM (by omega)); omega)
    | ((with_reducible apply lm_iW); decide))
  simp only [Nat.reduceDiv, Nat.reduceMod, lm_rd, Nat.reduceEqDiff, false_and, if_false, h, lm_oo]
  repeat (first
    | ((with_reducible apply lm_sI); exact rfl)
    | ((with_reducible apply lm_sR); exact rfl)
    | ((with_reducible apply lm_sS); exact rfl; exact rfl)
    | ((with_reducible apply lm_sL); exact rfl)
    | ((with_reducible apply lm_sP); exact rfl; exact rfl)
    | ((with_reducible apply lm_sPL); exact rfl; exact rfl)
    | ((with_reducible apply lm_sAA); exact rfl; first | exact rfl | exact lm_roO (by omega) | exact lm_roM (by omega))
    | ((with_reducible apply lm_sI); exact lm_fpL (by omega))
    | ((with_reducible apply lm_sR); exact lm_fpB (by omega))
    | ((with_reducible apply lm_sP); exact lm_fpL (by omega); exact rfl)
    | ((with_reducible apply lm_sS); exact lm_ocO (by omega); exact rfl)
    | ((with_reducible apply lm_sA); exact rfl; omega)
    | ((with_reducible apply lm_sJ); exact rfl; omega)
    | ((with_reducible apply lm_sB); (first | exact rfl | exact lm_arB (by omega) | exact lm_arM (by omega)); omega)
    | ((with_reducible apply lm_wA); exact rfl; omega)
    | ((with_reducible apply lm_wJ); exact rfl; omega)
    | ((with_reducible apply lm_wB); (first | exact rfl | exact lm_arB (by omega) | exact lm_arM (by omega)); omega)
    | ((with_reducible apply lm_sAl); (first | exact rfl | exact lm_arB (by omega) | exact lm_arM (by omega)); omega)
    | ((with_reducible apply lm_iW); decide))
  refine lm_e50_2 ?_
  unfold lm_q50_2
  simp only [lm_K0, lm_K1, lm_K4, lm_K8, lm_K24]
  refine lm_geT (by omega) (by omega) (by omega) ?_
  repeat (first
    | ((with_reducible apply lm_sI); exact rfl)
    | ((with_reducible apply lm_sR); exact rfl)
    | ((with_reducible apply lm_sS); exact rfl; exact rfl)
    | ((with_reducible apply lm_sL); exact rfl)
    | ((with_reducible apply lm_sP); exact rfl; exact rfl)
    | ((with_reducible apply lm_sPL); exact rfl; exact rfl)
    | ((with_reducible apply lm_sAA); exact rfl; first | exact rfl | exact lm_roO (by omega) | exact lm_roM (by omega))
    | ((with_reducible apply lm_sI); exact lm_fpL (by omega))
    | ((with_reducible apply lm_sR); exact lm_fpB (by omega))
    | ((with_reducible apply lm_sP); exact lm_fpL (by omega); exact rfl)
    | ((with_reducible apply lm_sS); exact lm_ocO (by omega); exact rfl)
    | ((with_reducible apply lm_sA); exact rfl; omega)
    | ((with_reducible apply lm_sJ); exact rfl; omega)
    | ((with_reducible apply lm_sB); (first | exact rfl | exact lm_arB (by omega) | exact lm_arM (by omega)); omega)
    | ((with_reducible apply lm_wA); exact rfl; omega)
    | ((with_reducible apply lm_wJ); exact rfl; omega)
    | ((with_reducible apply lm_wB); (first | exact rfl | exact lm_arB (by omega) | exact lm_arM (by omega)); omega)
    | ((with_reducible apply lm_sAl); (first | exact rfl | exact lm_arB (by omega) | exact lm_arM (by omega)); omega)
    | ((with_reducible apply lm_iW); decide))
  simp only [Nat.reduceDiv, Nat.reduceMod, lm_rd, Nat.reduceEqDiff, false_and, if_false, h, lm_oo]
  simp only [show (Int32.ofNat 24 - Int32.ofNat 8 * Int32.ofNat 0) &&& 31 = 24 by decide, show (Int32.ofNat 24 - Int32.ofNat 8 * Int32.ofNat (0 + 1)) &&& 31 = 16 by decide, show (Int32.ofNat 24 - Int32.ofNat 8 * Int32.ofNat (0 + 1 + 1)) &&& 31 = 8 by decide, show (Int32.ofNat 24 - Int32.ofNat 8 * Int32.ofNat (0 + 1 + 1 + 1)) &&& 31 = 0 by decide, lm_sh0]
  exact rfl
end LMCL
