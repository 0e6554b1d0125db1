/-! ===== SLH of the reference: the sets, the address ===== -/
def lm_rM (m : lm_MI) (N H D A K : Nat) (z : Int32) : lm_MI := lm_fil (lm_u (lm_u (lm_u (lm_u (lm_u (lm_u (lm_u (lm_u m 203 67 (Int32.ofNat N)) 203 68 (Int32.ofNat H)) 203 69 (Int32.ofNat D)) 203 71 (Int32.ofNat A)) 203 72 (Int32.ofNat K)) 203 70 (Int32.ofNat (H / D))) 203 73 (Int32.ofNat (2 * N + 3))) 203 74 z) 333 0 32 fun _ => 0
/-- the reference's numbers of a set -/
def lm_RF (m : lm_MI) (s : Nat) : Prop := m 203 67 = Int32.ofNat (lm_sn s) ∧ m 203 68 = Int32.ofNat (lm_sHt s) ∧ m 203 69 = Int32.ofNat (lm_sd s) ∧ m 203 70 = Int32.ofNat (lm_sh s) ∧ m 203 71 = Int32.ofNat (lm_sa s) ∧ m 203 72 = Int32.ofNat (ln_sT s) ∧ m 203 73 = Int32.ofNat (lm_cw s) ∧ lm_b1 (m 203 74) = lm_z (lm_sk s)
section LMTC
variable {sc : lm_H} {d s : Nat} {m : lm_MI} {n : lm_ML} {x : lm_H × Nat × Nat}
theorem lm_rM_f {N H D A K : Nat} {z : Int32} : lm_rM m N H D A K z 203 67 = Int32.ofNat N ∧ lm_rM m N H D A K z 203 68 = Int32.ofNat H ∧ lm_rM m N H D A K z 203 69 = Int32.ofNat D ∧ lm_rM m N H D A K z 203 70 = Int32.ofNat (H / D) ∧ lm_rM m N H D A K z 203 71 = Int32.ofNat A ∧ lm_rM m N H D A K z 203 72 = Int32.ofNat K ∧ lm_rM m N H D A K z 203 73 = Int32.ofNat (2 * N + 3) ∧ lm_rM m N H D A K z 203 74 = z := by
  unfold lm_rM
  refine ⟨?_, ?_, ?_, ?_, ?_, ?_, ?_, ?_⟩
  · rw [lm_fl_row (by decide)]; simp [lm_rd]
  · rw [lm_fl_row (by decide)]; simp [lm_rd]
  · rw [lm_fl_row (by decide)]; simp [lm_rd]
  · rw [lm_fl_row (by decide)]; simp [lm_rd]
  · rw [lm_fl_row (by decide)]; simp [lm_rd]
  · rw [lm_fl_row (by decide)]; simp [lm_rd]
  · rw [lm_fl_row (by decide), lm_u_ne (by decide), lm_u_eq]
  · rw [lm_fl_row (by decide), lm_u_eq]
theorem lm_rM_r {N H D A K : Nat} {z : Int32} : (∀ t, t < 32 → lm_b8 (lm_rM m N H D A K z 333 t) = 0) ∧ (∀ j, j < 67 → lm_rM m N H D A K z 203 j = m 203 j) ∧ ∀ q, q ≠ 203 → q ≠ 333 → lm_rM m N H D A K z q = m q := by
  unfold lm_rM
  refine ⟨fun t ht => ?_, fun j hj => ?_, fun q h1 h2 => ?_⟩
  · rw [lm_fl_in (by omega)]
    decide
  · rw [lm_fl_row (by decide), lm_u_ne (by omega), lm_u_ne (by omega), lm_u_ne (by omega), lm_u_ne (by omega), lm_u_ne (by omega), lm_u_ne (by omega), lm_u_ne (by omega), lm_u_ne (by omega)]
  · rw [lm_fl_row h2, lm_u_row h1, lm_u_row h1, lm_u_row h1, lm_u_row h1, lm_u_row h1, lm_u_row h1, lm_u_row h1, lm_u_row h1]
theorem lm_u107g {N H D A K : Nat} (hD : 0 < D) (hs : s ≤ 11) (hb : N ≤ 100 ∧ H ≤ 100 ∧ D ≤ 100) : lm_rn sc d lm_m107.2.2.2.2.1 (lm_reg lm_m107.2.2.2.2.2) (208, [(0, .ref 203), (1, .int (Int32.ofNat s))], [.int (Int32.ofNat K), .ref 203]) (lm_w (lm_u (lm_u (lm_u (lm_u m 203 67 (Int32.ofNat N)) 203 68 (Int32.ofNat H)) 203 69 (Int32.ofNat D)) 203 71 (Int32.ofNat A)) n x) = some (.ok none, lm_w (lm_rM m N H D A K (lm_z (lm_sk s))) n x) := by
  have fin : ∀ z : Int32, (z = 0 ∨ z = 1) → lm_rn sc d lm_m107.2.2.2.2.1 (lm_reg lm_m107.2.2.2.2.2) (248, [(0, .ref 203)], [.int z, .ref 203]) (lm_w (lm_u (lm_u (lm_u (lm_u (lm_u (lm_u (lm_u m 203 67 (Int32.ofNat N)) 203 68 (Int32.ofNat H)) 203 69 (Int32.ofNat D)) 203 71 (Int32.ofNat A)) 203 72 (Int32.ofNat K)) 203 70 (Int32.ofNat (H / D))) 203 73 (Int32.ofNat (2 * N + 3))) n x) = some (.ok none, lm_w (lm_rM m N H D A K z) n x) := by
    intro z hz
    refine lm_e107_248 ?_
    unfold lm_q107_248
    refine lm_sPz rfl rfl hz ?_
    rw [lm_K0]
    have g := lm_l107 (sc := sc) (d := d) (m := lm_u (lm_u (lm_u (lm_u (lm_u (lm_u (lm_u (lm_u m 203 67 (Int32.ofNat N)) 203 68 (Int32.ofNat H)) 203 69 (Int32.ofNat D)) 203 71 (Int32.ofNat A)) 203 72 (Int32.ofNat K)) 203 70 (Int32.ofNat (H / D))) 203 73 (Int32.ofNat (2 * N + 3))) 203 74 z) (n := n) (x := x) 32 0 rfl
    rw [lm_fl_nil] at g
    exact g
  have run : ∀ (z : Int32) (r : Except Nat lm_R × lm_S), (z = if 6 ≤ s then 0 else 1) → lm_rn sc d lm_m107.2.2.2.2.1 (lm_reg lm_m107.2.2.2.2.2) (248, [(0, .ref 203)], [.int z, .ref 203]) (lm_w (lm_u (lm_u (lm_u (lm_u (lm_u (lm_u (lm_u m 203 67 (Int32.ofNat N)) 203 68 (Int32.ofNat H)) 203 69 (Int32.ofNat D)) 203 71 (Int32.ofNat A)) 203 72 (Int32.ofNat K)) 203 70 (Int32.ofNat (H / D))) 203 73 (Int32.ofNat (2 * N + 3))) n x) = some r → lm_rn sc d lm_m107.2.2.2.2.1 (lm_reg lm_m107.2.2.2.2.2) (208, [(0, .ref 203), (1, .int (Int32.ofNat s))], [.int (Int32.ofNat K), .ref 203]) (lm_w (lm_u (lm_u (lm_u (lm_u m 203 67 (Int32.ofNat N)) 203 68 (Int32.ofNat H)) 203 69 (Int32.ofNat D)) 203 71 (Int32.ofNat A)) n x) = some r := by
    intro z r hz h
    refine lm_e107_208 ?_
    unfold lm_q107_208
    refine lm_sP rfl rfl ?_
    refine lm_sI rfl ?_
    refine lm_sI rfl ?_
    simp only [Nat.reduceDiv, Nat.reduceMod, lm_rd, Nat.reduceEqDiff, and_false, and_true, and_self, if_false, if_true]
    refine lm_iW (fun g => absurd ((lm_eq32 (b := 0) (by omega) (by omega)).mp g) (by omega)) ?_
    rw [lm_od (by omega) (by omega)]
    refine lm_sP rfl rfl ?_
    refine lm_sI rfl ?_
    simp only [Nat.reduceDiv, Nat.reduceMod, lm_rd, Nat.reduceEqDiff, and_false, and_true, and_self, if_false, if_true, lm_K2, lm_K3, lm_K6, lm_om, lm_oo]
    refine lm_sP rfl rfl ?_
    by_cases c : 6 ≤ s
    · rw [if_pos c] at hz
      subst hz
      exact lm_geT (by omega) (by omega) c h
    · rw [if_neg c] at hz
      subst hz
      exact lm_geF (by omega) (by omega) c h
  unfold lm_sk
  by_cases c : 6 ≤ s
  · rw [decide_eq_false (by omega)]
    exact run 0 _ (by rw [if_pos c]) (fin 0 (Or.inl rfl))
  · rw [decide_eq_true (by omega)]
    exact run 1 _ (by rw [if_neg c]) (fin 1 (Or.inr rfl))
theorem lm_u107x (hs : s ≤ 11) : ∃ m', lm_cal sc (d + 1) 107 [.ref 203, .int (Int32.ofNat s)] (lm_w m n x) = some (.ok none, lm_w m' n x) ∧ lm_RF m' s ∧ (∀ t, t < 32 → lm_b8 (m' 333 t) = 0) ∧ (∀ j, j < 67 → m' 203 j = m 203 j) ∧ ∀ q, q ≠ 203 → q ≠ 333 → m' q = m q := by
  have h6 : s % 6 < 6 := Nat.mod_lt _ (by decide)
  have hd : ∀ r : Except Nat lm_R × lm_S, lm_q107_0 sc (lm_cal sc d) (lm_rn sc d lm_m107.2.2.2.2.1 (lm_reg lm_m107.2.2.2.2.2)) 203 (Int32.ofNat s) (lm_w m n x) = some r → lm_cal sc (d + 1) 107 [.ref 203, .int (Int32.ofNat s)] (lm_w m n x) = some r := fun r h => lm_cal_of (Y := lm_m107) rfl rfl (lm_e107_0 h)
  have er : lm_rem (Int32.ofNat s) (Int32.ofInt 6) = Int32.ofNat (s % 6) := by rw [lm_K6, lm_orm (by omega) (by omega)]
  have hbz : lm_b1 (lm_z (lm_sk s)) = lm_z (lm_sk s) := by cases lm_sk s <;> decide
  have hg := fun N H D A K => lm_u107g (sc := sc) (d := d) (m := m) (n := n) (x := x) (s := s) (N := N) (H := H) (D := D) (A := A) (K := K)
  unfold lm_RF lm_cw lm_sn lm_sd lm_sh lm_sa ln_sT lm_sHt
  unfold lm_q107_0 at hd
  rw [er] at hd
  generalize lm_sk s = sk at *
  generalize s % 6 = r at *
  match r, h6 with
  | 0, _ =>
    have e := hg 16 63 7 12 14 (by decide) hs (by decide)
    have f := lm_rM_f (m := m) (N := 16) (H := 63) (D := 7) (A := 12) (K := 14) (z := lm_z sk)
    refine ⟨lm_rM m 16 63 7 12 14 (lm_z sk), hd _ ?_, ⟨f.1, f.2.1, f.2.2.1, f.2.2.2.1, f.2.2.2.2.1, f.2.2.2.2.2.1, f.2.2.2.2.2.2.1, by rw [f.2.2.2.2.2.2.2]; exact hbz⟩, lm_rM_r⟩
    clear hg f
    repeat (first
    | ((with_reducible apply lm_sI); exact rfl)
    | ((with_reducible apply lm_sR); exact rfl)
    | ((with_reducible apply lm_sS); exact rfl; exact rfl)
    | ((with_reducible apply lm_sL); exact rfl)
    | ((with_reducible apply lm_sP); exact rfl; exact rfl)
    | ((with_reducible apply lm_sPL); exact rfl; exact rfl)
    | ((with_reducible apply lm_sAA); exact rfl; first | exact rfl | exact lm_roO (by omega) | exact lm_roM (by omega))
    | ((with_reducible apply lm_sI); exact lm_fpL (by omega))
    | ((with_reducible apply lm_sR); exact lm_fpB (by omega))
    | ((with_reducible apply lm_sP); exact lm_fpL (by omega); exact rfl)
    | ((with_reducible apply lm_sS); exact lm_ocO (by omega); exact rfl)
    | ((with_reducible apply lm_sA); exact rfl; omega)
    | ((with_reducible apply lm_sJ); exact rfl; omega)
    | ((with_reducible apply lm_sB); (first | exact rfl | exact lm_arB (by omega) | exact lm_arM (by omega)); omega)
    | ((with_reducible apply lm_wA); exact rfl; omega)
    | ((with_reducible apply lm_wJ); exact rfl; omega)
    | ((with_reducible apply lm_wB); (first | exact rfl | exact lm_arB (by omega) | exact lm_arM (by omega)); omega)
    | ((with_reducible apply lm_sAl); (first | exact rfl | exact lm_arB (by omega) | exact lm_arM (by omega)); omega)
    | ((with_reducible apply lm_iW); decide)
    | ((with_reducible apply lm_iTd); exact rfl)
    | ((with_reducible apply lm_iFd); exact rfl)
    | ((with_reducible apply lm_sSt); exact rfl; exact rfl; exact rfl)
    | ((with_reducible apply lm_sIz); exact rfl)
    | ((with_reducible apply lm_sPz); exact rfl; exact rfl; decide))
    refine lm_e107_28 ?_
    unfold lm_q107_28
    repeat (first
    | ((with_reducible apply lm_sI); exact rfl)
    | ((with_reducible apply lm_sR); exact rfl)
    | ((with_reducible apply lm_sS); exact rfl; exact rfl)
    | ((with_reducible apply lm_sL); exact rfl)
    | ((with_reducible apply lm_sP); exact rfl; exact rfl)
    | ((with_reducible apply lm_sPL); exact rfl; exact rfl)
    | ((with_reducible apply lm_sAA); exact rfl; first | exact rfl | exact lm_roO (by omega) | exact lm_roM (by omega))
    | ((with_reducible apply lm_sI); exact lm_fpL (by omega))
    | ((with_reducible apply lm_sR); exact lm_fpB (by omega))
    | ((with_reducible apply lm_sP); exact lm_fpL (by omega); exact rfl)
    | ((with_reducible apply lm_sS); exact lm_ocO (by omega); exact rfl)
    | ((with_reducible apply lm_sA); exact rfl; omega)
    | ((with_reducible apply lm_sJ); exact rfl; omega)
    | ((with_reducible apply lm_sB); (first | exact rfl | exact lm_arB (by omega) | exact lm_arM (by omega)); omega)
    | ((with_reducible apply lm_wA); exact rfl; omega)
    | ((with_reducible apply lm_wJ); exact rfl; omega)
    | ((with_reducible apply lm_wB); (first | exact rfl | exact lm_arB (by omega) | exact lm_arM (by omega)); omega)
    | ((with_reducible apply lm_sAl); (first | exact rfl | exact lm_arB (by omega) | exact lm_arM (by omega)); omega)
    | ((with_reducible apply lm_iW); decide)
    | ((with_reducible apply lm_iTd); exact rfl)
    | ((with_reducible apply lm_iFd); exact rfl)
    | ((with_reducible apply lm_sSt); exact rfl; exact rfl; exact rfl)
    | ((with_reducible apply lm_sIz); exact rfl)
    | ((with_reducible apply lm_sPz); exact rfl; exact rfl; decide))
    refine lm_e107_41 ?_
    unfold lm_q107_41
    refine lm_e107_68 ?_
    unfold lm_q107_68
    repeat (first
    | ((with_reducible apply lm_sI); exact rfl)
    | ((with_reducible apply lm_sR); exact rfl)
    | ((with_reducible apply lm_sS); exact rfl; exact rfl)
    | ((with_reducible apply lm_sL); exact rfl)
    | ((with_reducible apply lm_sP); exact rfl; exact rfl)
    | ((with_reducible apply lm_sPL); exact rfl; exact rfl)
    | ((with_reducible apply lm_sAA); exact rfl; first | exact rfl | exact lm_roO (by omega) | exact lm_roM (by omega))
    | ((with_reducible apply lm_sI); exact lm_fpL (by omega))
    | ((with_reducible apply lm_sR); exact lm_fpB (by omega))
    | ((with_reducible apply lm_sP); exact lm_fpL (by omega); exact rfl)
    | ((with_reducible apply lm_sS); exact lm_ocO (by omega); exact rfl)
    | ((with_reducible apply lm_sA); exact rfl; omega)
    | ((with_reducible apply lm_sJ); exact rfl; omega)
    | ((with_reducible apply lm_sB); (first | exact rfl | exact lm_arB (by omega) | exact lm_arM (by omega)); omega)
    | ((with_reducible apply lm_wA); exact rfl; omega)
    | ((with_reducible apply lm_wJ); exact rfl; omega)
    | ((with_reducible apply lm_wB); (first | exact rfl | exact lm_arB (by omega) | exact lm_arM (by omega)); omega)
    | ((with_reducible apply lm_sAl); (first | exact rfl | exact lm_arB (by omega) | exact lm_arM (by omega)); omega)
    | ((with_reducible apply lm_iW); decide)
    | ((with_reducible apply lm_iTd); exact rfl)
    | ((with_reducible apply lm_iFd); exact rfl)
    | ((with_reducible apply lm_sSt); exact rfl; exact rfl; exact rfl)
    | ((with_reducible apply lm_sIz); exact rfl)
    | ((with_reducible apply lm_sPz); exact rfl; exact rfl; decide))
    refine lm_e107_81 ?_
    unfold lm_q107_81
    refine lm_e107_108 ?_
    unfold lm_q107_108
    repeat (first
    | ((with_reducible apply lm_sI); exact rfl)
    | ((with_reducible apply lm_sR); exact rfl)
    | ((with_reducible apply lm_sS); exact rfl; exact rfl)
    | ((with_reducible apply lm_sL); exact rfl)
    | ((with_reducible apply lm_sP); exact rfl; exact rfl)
    | ((with_reducible apply lm_sPL); exact rfl; exact rfl)
    | ((with_reducible apply lm_sAA); exact rfl; first | exact rfl | exact lm_roO (by omega) | exact lm_roM (by omega))
    | ((with_reducible apply lm_sI); exact lm_fpL (by omega))
    | ((with_reducible apply lm_sR); exact lm_fpB (by omega))
    | ((with_reducible apply lm_sP); exact lm_fpL (by omega); exact rfl)
    | ((with_reducible apply lm_sS); exact lm_ocO (by omega); exact rfl)
    | ((with_reducible apply lm_sA); exact rfl; omega)
    | ((with_reducible apply lm_sJ); exact rfl; omega)
    | ((with_reducible apply lm_sB); (first | exact rfl | exact lm_arB (by omega) | exact lm_arM (by omega)); omega)
    | ((with_reducible apply lm_wA); exact rfl; omega)
    | ((with_reducible apply lm_wJ); exact rfl; omega)
    | ((with_reducible apply lm_wB); (first | exact rfl | exact lm_arB (by omega) | exact lm_arM (by omega)); omega)
    | ((with_reducible apply lm_sAl); (first | exact rfl | exact lm_arB (by omega) | exact lm_arM (by omega)); omega)
    | ((with_reducible apply lm_iW); decide)
    | ((with_reducible apply lm_iTd); exact rfl)
    | ((with_reducible apply lm_iFd); exact rfl)
    | ((with_reducible apply lm_sSt); exact rfl; exact rfl; exact rfl)
    | ((with_reducible apply lm_sIz); exact rfl)
    | ((with_reducible apply lm_sPz); exact rfl; exact rfl; decide))
    refine lm_e107_158 ?_
    unfold lm_q107_158
    repeat (first
    | ((with_reducible apply lm_sI); exact rfl)
    | ((with_reducible apply lm_sR); exact rfl)
    | ((with_reducible apply lm_sS); exact rfl; exact rfl)
    | ((with_reducible apply lm_sL); exact rfl)
    | ((with_reducible apply lm_sP); exact rfl; exact rfl)
    | ((with_reducible apply lm_sPL); exact rfl; exact rfl)
    | ((with_reducible apply lm_sAA); exact rfl; first | exact rfl | exact lm_roO (by omega) | exact lm_roM (by omega))
    | ((with_reducible apply lm_sI); exact lm_fpL (by omega))
    | ((with_reducible apply lm_sR); exact lm_fpB (by omega))
    | ((with_reducible apply lm_sP); exact lm_fpL (by omega); exact rfl)
    | ((with_reducible apply lm_sS); exact lm_ocO (by omega); exact rfl)
    | ((with_reducible apply lm_sA); exact rfl; omega)
    | ((with_reducible apply lm_sJ); exact rfl; omega)
    | ((with_reducible apply lm_sB); (first | exact rfl | exact lm_arB (by omega) | exact lm_arM (by omega)); omega)
    | ((with_reducible apply lm_wA); exact rfl; omega)
    | ((with_reducible apply lm_wJ); exact rfl; omega)
    | ((with_reducible apply lm_wB); (first | exact rfl | exact lm_arB (by omega) | exact lm_arM (by omega)); omega)
    | ((with_reducible apply lm_sAl); (first | exact rfl | exact lm_arB (by omega) | exact lm_arM (by omega)); omega)
    | ((with_reducible apply lm_iW); decide)
    | ((with_reducible apply lm_iTd); exact rfl)
    | ((with_reducible apply lm_iFd); exact rfl)
    | ((with_reducible apply lm_sSt); exact rfl; exact rfl; exact rfl)
    | ((with_reducible apply lm_sIz); exact rfl)
    | ((with_reducible apply lm_sPz); exact rfl; exact rfl; decide))
    exact e
  | 1, _ =>
    have e := hg 16 66 22 6 33 (by decide) hs (by decide)
    have f := lm_rM_f (m := m) (N := 16) (H := 66) (D := 22) (A := 6) (K := 33) (z := lm_z sk)
    refine ⟨lm_rM m 16 66 22 6 33 (lm_z sk), hd _ ?_, ⟨f.1, f.2.1, f.2.2.1, f.2.2.2.1, f.2.2.2.2.1, f.2.2.2.2.2.1, f.2.2.2.2.2.2.1, by rw [f.2.2.2.2.2.2.2]; exact hbz⟩, lm_rM_r⟩
    clear hg f
    repeat (first
    | ((with_reducible apply lm_sI); exact rfl)
    | ((with_reducible apply lm_sR); exact rfl)
    | ((with_reducible apply lm_sS); exact rfl; exact rfl)
    | ((with_reducible apply lm_sL); exact rfl)
    | ((with_reducible apply lm_sP); exact rfl; exact rfl)
    | ((with_reducible apply lm_sPL); exact rfl; exact rfl)
    | ((with_reducible apply lm_sAA); exact rfl; first | exact rfl | exact lm_roO (by omega) | exact lm_roM (by omega))
    | ((with_reducible apply lm_sI); exact lm_fpL (by omega))
    | ((with_reducible apply lm_sR); exact lm_fpB (by omega))
    | ((with_reducible apply lm_sP); exact lm_fpL (by omega); exact rfl)
    | ((with_reducible apply lm_sS); exact lm_ocO (by omega); exact rfl)
    | ((with_reducible apply lm_sA); exact rfl; omega)
    | ((with_reducible apply lm_sJ); exact rfl; omega)
    | ((with_reducible apply lm_sB); (first | exact rfl | exact lm_arB (by omega) | exact lm_arM (by omega)); omega)
    | ((with_reducible apply lm_wA); exact rfl; omega)
    | ((with_reducible apply lm_wJ); exact rfl; omega)
    | ((with_reducible apply lm_wB); (first | exact rfl | exact lm_arB (by omega) | exact lm_arM (by omega)); omega)
    | ((with_reducible apply lm_sAl); (first | exact rfl | exact lm_arB (by omega) | exact lm_arM (by omega)); omega)
    | ((with_reducible apply lm_iW); decide)
    | ((with_reducible apply lm_iTd); exact rfl)
    | ((with_reducible apply lm_iFd); exact rfl)
    | ((with_reducible apply lm_sSt); exact rfl; exact rfl; exact rfl)
    | ((with_reducible apply lm_sIz); exact rfl)
    | ((with_reducible apply lm_sPz); exact rfl; exact rfl; decide))
    refine lm_e107_28 ?_
    unfold lm_q107_28
    repeat (first
    | ((with_reducible apply lm_sI); exact rfl)
    | ((with_reducible apply lm_sR); exact rfl)
    | ((with_reducible apply lm_sS); exact rfl; exact rfl)
    | ((with_reducible apply lm_sL); exact rfl)
    | ((with_reducible apply lm_sP); exact rfl; exact rfl)
    | ((with_reducible apply lm_sPL); exact rfl; exact rfl)
    | ((with_reducible apply lm_sAA); exact rfl; first | exact rfl | exact lm_roO (by omega) | exact lm_roM (by omega))
    | ((with_reducible apply lm_sI); exact lm_fpL (by omega))
    | ((with_reducible apply lm_sR); exact lm_fpB (by omega))
    | ((with_reducible apply lm_sP); exact lm_fpL (by omega); exact rfl)
    | ((with_reducible apply lm_sS); exact lm_ocO (by omega); exact rfl)
    | ((with_reducible apply lm_sA); exact rfl; omega)
    | ((with_reducible apply lm_sJ); exact rfl; omega)
    | ((with_reducible apply lm_sB); (first | exact rfl | exact lm_arB (by omega) | exact lm_arM (by omega)); omega)
    | ((with_reducible apply lm_wA); exact rfl; omega)
    | ((with_reducible apply lm_wJ); exact rfl; omega)
    | ((with_reducible apply lm_wB); (first | exact rfl | exact lm_arB (by omega) | exact lm_arM (by omega)); omega)
    | ((with_reducible apply lm_sAl); (first | exact rfl | exact lm_arB (by omega) | exact lm_arM (by omega)); omega)
    | ((with_reducible apply lm_iW); decide)
    | ((with_reducible apply lm_iTd); exact rfl)
    | ((with_reducible apply lm_iFd); exact rfl)
    | ((with_reducible apply lm_sSt); exact rfl; exact rfl; exact rfl)
    | ((with_reducible apply lm_sIz); exact rfl)
    | ((with_reducible apply lm_sPz); exact rfl; exact rfl; decide))
    refine lm_e107_68 ?_
    unfold lm_q107_68
    repeat (first
    | ((with_reducible apply lm_sI); exact rfl)
    | ((with_reducible apply lm_sR); exact rfl)
    | ((with_reducible apply lm_sS); exact rfl; exact rfl)
    | ((with_reducible apply lm_sL); exact rfl)
    | ((with_reducible apply lm_sP); exact rfl; exact rfl)
    | ((with_reducible apply lm_sPL); exact rfl; exact rfl)
    | ((with_reducible apply lm_sAA); exact rfl; first | exact rfl | exact lm_roO (by omega) | exact lm_roM (by omega))
    | ((with_reducible apply lm_sI); exact lm_fpL (by omega))
    | ((with_reducible apply lm_sR); exact lm_fpB (by omega))
    | ((with_reducible apply lm_sP); exact lm_fpL (by omega); exact rfl)
    | ((with_reducible apply lm_sS); exact lm_ocO (by omega); exact rfl)
    | ((with_reducible apply lm_sA); exact rfl; omega)
    | ((with_reducible apply lm_sJ); exact rfl; omega)
    | ((with_reducible apply lm_sB); (first | exact rfl | exact lm_arB (by omega) | exact lm_arM (by omega)); omega)
    | ((with_reducible apply lm_wA); exact rfl; omega)
    | ((with_reducible apply lm_wJ); exact rfl; omega)
    | ((with_reducible apply lm_wB); (first | exact rfl | exact lm_arB (by omega) | exact lm_arM (by omega)); omega)
    | ((with_reducible apply lm_sAl); (first | exact rfl | exact lm_arB (by omega) | exact lm_arM (by omega)); omega)
    | ((with_reducible apply lm_iW); decide)
    | ((with_reducible apply lm_iTd); exact rfl)
    | ((with_reducible apply lm_iFd); exact rfl)
    | ((with_reducible apply lm_sSt); exact rfl; exact rfl; exact rfl)
    | ((with_reducible apply lm_sIz); exact rfl)
    | ((with_reducible apply lm_sPz); exact rfl; exact rfl; decide))
    refine lm_e107_108 ?_
    unfold lm_q107_108
    repeat (first
    | ((with_reducible apply lm_sI); exact rfl)
    | ((with_reducible apply lm_sR); exact rfl)
    | ((with_reducible apply lm_sS); exact rfl; exact rfl)
    | ((with_reducible apply lm_sL); exact rfl)
    | ((with_reducible apply lm_sP); exact rfl; exact rfl)
    | ((with_reducible apply lm_sPL); exact rfl; exact rfl)
    | ((with_reducible apply lm_sAA); exact rfl; first | exact rfl | exact lm_roO (by omega) | exact lm_roM (by omega))
    | ((with_reducible apply lm_sI); exact lm_fpL (by omega))
    | ((with_reducible apply lm_sR); exact lm_fpB (by omega))
    | ((with_reducible apply lm_sP); exact lm_fpL (by omega); exact rfl)
    | ((with_reducible apply lm_sS); exact lm_ocO (by omega); exact rfl)
    | ((with_reducible apply lm_sA); exact rfl; omega)
    | ((with_reducible apply lm_sJ); exact rfl; omega)
    | ((with_reducible apply lm_sB); (first | exact rfl | exact lm_arB (by omega) | exact lm_arM (by omega)); omega)
    | ((with_reducible apply lm_wA); exact rfl; omega)
    | ((with_reducible apply lm_wJ); exact rfl; omega)
    | ((with_reducible apply lm_wB); (first | exact rfl | exact lm_arB (by omega) | exact lm_arM (by omega)); omega)
    | ((with_reducible apply lm_sAl); (first | exact rfl | exact lm_arB (by omega) | exact lm_arM (by omega)); omega)
    | ((with_reducible apply lm_iW); decide)
    | ((with_reducible apply lm_iTd); exact rfl)
    | ((with_reducible apply lm_iFd); exact rfl)
    | ((with_reducible apply lm_sSt); exact rfl; exact rfl; exact rfl)
    | ((with_reducible apply lm_sIz); exact rfl)
    | ((with_reducible apply lm_sPz); exact rfl; exact rfl; decide))
    refine lm_e107_158 ?_
    unfold lm_q107_158
    repeat (first
    | ((with_reducible apply lm_sI); exact rfl)
    | ((with_reducible apply lm_sR); exact rfl)
    | ((with_reducible apply lm_sS); exact rfl; exact rfl)
    | ((with_reducible apply lm_sL); exact rfl)
    | ((with_reducible apply lm_sP); exact rfl; exact rfl)
    | ((with_reducible apply lm_sPL); exact rfl; exact rfl)
    | ((with_reducible apply lm_sAA); exact rfl; first | exact rfl | exact lm_roO (by omega) | exact lm_roM (by omega))
    | ((with_reducible apply lm_sI); exact lm_fpL (by omega))
    | ((with_reducible apply lm_sR); exact lm_fpB (by omega))
    | ((with_reducible apply lm_sP); exact lm_fpL (by omega); exact rfl)
    | ((with_reducible apply lm_sS); exact lm_ocO (by omega); exact rfl)
    | ((with_reducible apply lm_sA); exact rfl; omega)
    | ((with_reducible apply lm_sJ); exact rfl; omega)
    | ((with_reducible apply lm_sB); (first | exact rfl | exact lm_arB (by omega) | exact lm_arM (by omega)); omega)
    | ((with_reducible apply lm_wA); exact rfl; omega)
    | ((with_reducible apply lm_wJ); exact rfl; omega)
    | ((with_reducible apply lm_wB); (first | exact rfl | exact lm_arB (by omega) | exact lm_arM (by omega)); omega)
    | ((with_reducible apply lm_sAl); (first | exact rfl | exact lm_arB (by omega) | exact lm_arM (by omega)); omega)
    | ((with_reducible apply lm_iW); decide)
    | ((with_reducible apply lm_iTd); exact rfl)
    | ((with_reducible apply lm_iFd); exact rfl)
    | ((with_reducible apply lm_sSt); exact rfl; exact rfl; exact rfl)
    | ((with_reducible apply lm_sIz); exact rfl)
    | ((with_reducible apply lm_sPz); exact rfl; exact rfl; decide))
    refine lm_e107_181 ?_
    unfold lm_q107_181
    exact e
  | 2, _ =>
    have e := hg 24 63 7 14 17 (by decide) hs (by decide)
    have f := lm_rM_f (m := m) (N := 24) (H := 63) (D := 7) (A := 14) (K := 17) (z := lm_z sk)
    refine ⟨lm_rM m 24 63 7 14 17 (lm_z sk), hd _ ?_, ⟨f.1, f.2.1, f.2.2.1, f.2.2.2.1, f.2.2.2.2.1, f.2.2.2.2.2.1, f.2.2.2.2.2.2.1, by rw [f.2.2.2.2.2.2.2]; exact hbz⟩, lm_rM_r⟩
    clear hg f
    repeat (first
    | ((with_reducible apply lm_sI); exact rfl)
    | ((with_reducible apply lm_sR); exact rfl)
    | ((with_reducible apply lm_sS); exact rfl; exact rfl)
    | ((with_reducible apply lm_sL); exact rfl)
    | ((with_reducible apply lm_sP); exact rfl; exact rfl)
    | ((with_reducible apply lm_sPL); exact rfl; exact rfl)
    | ((with_reducible apply lm_sAA); exact rfl; first | exact rfl | exact lm_roO (by omega) | exact lm_roM (by omega))
    | ((with_reducible apply lm_sI); exact lm_fpL (by omega))
    | ((with_reducible apply lm_sR); exact lm_fpB (by omega))
    | ((with_reducible apply lm_sP); exact lm_fpL (by omega); exact rfl)
    | ((with_reducible apply lm_sS); exact lm_ocO (by omega); exact rfl)
    | ((with_reducible apply lm_sA); exact rfl; omega)
    | ((with_reducible apply lm_sJ); exact rfl; omega)
    | ((with_reducible apply lm_sB); (first | exact rfl | exact lm_arB (by omega) | exact lm_arM (by omega)); omega)
    | ((with_reducible apply lm_wA); exact rfl; omega)
    | ((with_reducible apply lm_wJ); exact rfl; omega)
    | ((with_reducible apply lm_wB); (first | exact rfl | exact lm_arB (by omega) | exact lm_arM (by omega)); omega)
    | ((with_reducible apply lm_sAl); (first | exact rfl | exact lm_arB (by omega) | exact lm_arM (by omega)); omega)
    | ((with_reducible apply lm_iW); decide)
    | ((with_reducible apply lm_iTd); exact rfl)
    | ((with_reducible apply lm_iFd); exact rfl)
    | ((with_reducible apply lm_sSt); exact rfl; exact rfl; exact rfl)
    | ((with_reducible apply lm_sIz); exact rfl)
    | ((with_reducible apply lm_sPz); exact rfl; exact rfl; decide))
    refine lm_e107_28 ?_
    unfold lm_q107_28
    repeat (first
    | ((with_reducible apply lm_sI); exact rfl)
    | ((with_reducible apply lm_sR); exact rfl)
    | ((with_reducible apply lm_sS); exact rfl; exact rfl)
    | ((with_reducible apply lm_sL); exact rfl)
    | ((with_reducible apply lm_sP); exact rfl; exact rfl)
    | ((with_reducible apply lm_sPL); exact rfl; exact rfl)
    | ((with_reducible apply lm_sAA); exact rfl; first | exact rfl | exact lm_roO (by omega) | exact lm_roM (by omega))
    | ((with_reducible apply lm_sI); exact lm_fpL (by omega))
    | ((with_reducible apply lm_sR); exact lm_fpB (by omega))
    | ((with_reducible apply lm_sP); exact lm_fpL (by omega); exact rfl)
    | ((with_reducible apply lm_sS); exact lm_ocO (by omega); exact rfl)
    | ((with_reducible apply lm_sA); exact rfl; omega)
    | ((with_reducible apply lm_sJ); exact rfl; omega)
    | ((with_reducible apply lm_sB); (first | exact rfl | exact lm_arB (by omega) | exact lm_arM (by omega)); omega)
    | ((with_reducible apply lm_wA); exact rfl; omega)
    | ((with_reducible apply lm_wJ); exact rfl; omega)
    | ((with_reducible apply lm_wB); (first | exact rfl | exact lm_arB (by omega) | exact lm_arM (by omega)); omega)
    | ((with_reducible apply lm_sAl); (first | exact rfl | exact lm_arB (by omega) | exact lm_arM (by omega)); omega)
    | ((with_reducible apply lm_iW); decide)
    | ((with_reducible apply lm_iTd); exact rfl)
    | ((with_reducible apply lm_iFd); exact rfl)
    | ((with_reducible apply lm_sSt); exact rfl; exact rfl; exact rfl)
    | ((with_reducible apply lm_sIz); exact rfl)
    | ((with_reducible apply lm_sPz); exact rfl; exact rfl; decide))
    refine lm_e107_41 ?_
    unfold lm_q107_41
    refine lm_e107_68 ?_
    unfold lm_q107_68
    repeat (first
    | ((with_reducible apply lm_sI); exact rfl)
    | ((with_reducible apply lm_sR); exact rfl)
    | ((with_reducible apply lm_sS); exact rfl; exact rfl)
    | ((with_reducible apply lm_sL); exact rfl)
    | ((with_reducible apply lm_sP); exact rfl; exact rfl)
    | ((with_reducible apply lm_sPL); exact rfl; exact rfl)
    | ((with_reducible apply lm_sAA); exact rfl; first | exact rfl | exact lm_roO (by omega) | exact lm_roM (by omega))
    | ((with_reducible apply lm_sI); exact lm_fpL (by omega))
    | ((with_reducible apply lm_sR); exact lm_fpB (by omega))
    | ((with_reducible apply lm_sP); exact lm_fpL (by omega); exact rfl)
    | ((with_reducible apply lm_sS); exact lm_ocO (by omega); exact rfl)
    | ((with_reducible apply lm_sA); exact rfl; omega)
    | ((with_reducible apply lm_sJ); exact rfl; omega)
    | ((with_reducible apply lm_sB); (first | exact rfl | exact lm_arB (by omega) | exact lm_arM (by omega)); omega)
    | ((with_reducible apply lm_wA); exact rfl; omega)
    | ((with_reducible apply lm_wJ); exact rfl; omega)
    | ((with_reducible apply lm_wB); (first | exact rfl | exact lm_arB (by omega) | exact lm_arM (by omega)); omega)
    | ((with_reducible apply lm_sAl); (first | exact rfl | exact lm_arB (by omega) | exact lm_arM (by omega)); omega)
    | ((with_reducible apply lm_iW); decide)
    | ((with_reducible apply lm_iTd); exact rfl)
    | ((with_reducible apply lm_iFd); exact rfl)
    | ((with_reducible apply lm_sSt); exact rfl; exact rfl; exact rfl)
    | ((with_reducible apply lm_sIz); exact rfl)
    | ((with_reducible apply lm_sPz); exact rfl; exact rfl; decide))
    refine lm_e107_81 ?_
    unfold lm_q107_81
    refine lm_e107_108 ?_
    unfold lm_q107_108
    repeat (first
    | ((with_reducible apply lm_sI); exact rfl)
    | ((with_reducible apply lm_sR); exact rfl)
    | ((with_reducible apply lm_sS); exact rfl; exact rfl)
    | ((with_reducible apply lm_sL); exact rfl)
    | ((with_reducible apply lm_sP); exact rfl; exact rfl)
    | ((with_reducible apply lm_sPL); exact rfl; exact rfl)
    | ((with_reducible apply lm_sAA); exact rfl; first | exact rfl | exact lm_roO (by omega) | exact lm_roM (by omega))
    | ((with_reducible apply lm_sI); exact lm_fpL (by omega))
    | ((with_reducible apply lm_sR); exact lm_fpB (by omega))
    | ((with_reducible apply lm_sP); exact lm_fpL (by omega); exact rfl)
    | ((with_reducible apply lm_sS); exact lm_ocO (by omega); exact rfl)
    | ((with_reducible apply lm_sA); exact rfl; omega)
    | ((with_reducible apply lm_sJ); exact rfl; omega)
    | ((with_reducible apply lm_sB); (first | exact rfl | exact lm_arB (by omega) | exact lm_arM (by omega)); omega)
    | ((with_reducible apply lm_wA); exact rfl; omega)
    | ((with_reducible apply lm_wJ); exact rfl; omega)
    | ((with_reducible apply lm_wB); (first | exact rfl | exact lm_arB (by omega) | exact lm_arM (by omega)); omega)
    | ((with_reducible apply lm_sAl); (first | exact rfl | exact lm_arB (by omega) | exact lm_arM (by omega)); omega)
    | ((with_reducible apply lm_iW); decide)
    | ((with_reducible apply lm_iTd); exact rfl)
    | ((with_reducible apply lm_iFd); exact rfl)
    | ((with_reducible apply lm_sSt); exact rfl; exact rfl; exact rfl)
    | ((with_reducible apply lm_sIz); exact rfl)
    | ((with_reducible apply lm_sPz); exact rfl; exact rfl; decide))
    refine lm_e107_141 ?_
    unfold lm_q107_141
    refine lm_e107_158 ?_
    unfold lm_q107_158
    repeat (first
    | ((with_reducible apply lm_sI); exact rfl)
    | ((with_reducible apply lm_sR); exact rfl)
    | ((with_reducible apply lm_sS); exact rfl; exact rfl)
    | ((with_reducible apply lm_sL); exact rfl)
    | ((with_reducible apply lm_sP); exact rfl; exact rfl)
    | ((with_reducible apply lm_sPL); exact rfl; exact rfl)
    | ((with_reducible apply lm_sAA); exact rfl; first | exact rfl | exact lm_roO (by omega) | exact lm_roM (by omega))
    | ((with_reducible apply lm_sI); exact lm_fpL (by omega))
    | ((with_reducible apply lm_sR); exact lm_fpB (by omega))
    | ((with_reducible apply lm_sP); exact lm_fpL (by omega); exact rfl)
    | ((with_reducible apply lm_sS); exact lm_ocO (by omega); exact rfl)
    | ((with_reducible apply lm_sA); exact rfl; omega)
    | ((with_reducible apply lm_sJ); exact rfl; omega)
    | ((with_reducible apply lm_sB); (first | exact rfl | exact lm_arB (by omega) | exact lm_arM (by omega)); omega)
    | ((with_reducible apply lm_wA); exact rfl; omega)
    | ((with_reducible apply lm_wJ); exact rfl; omega)
    | ((with_reducible apply lm_wB); (first | exact rfl | exact lm_arB (by omega) | exact lm_arM (by omega)); omega)
    | ((with_reducible apply lm_sAl); (first | exact rfl | exact lm_arB (by omega) | exact lm_arM (by omega)); omega)
    | ((with_reducible apply lm_iW); decide)
    | ((with_reducible apply lm_iTd); exact rfl)
    | ((with_reducible apply lm_iFd); exact rfl)
    | ((with_reducible apply lm_sSt); exact rfl; exact rfl; exact rfl)
    | ((with_reducible apply lm_sIz); exact rfl)
    | ((with_reducible apply lm_sPz); exact rfl; exact rfl; decide))
    exact e
  | 3, _ =>
    have e := hg 24 66 22 8 33 (by decide) hs (by decide)
    have f := lm_rM_f (m := m) (N := 24) (H := 66) (D := 22) (A := 8) (K := 33) (z := lm_z sk)
    refine ⟨lm_rM m 24 66 22 8 33 (lm_z sk), hd _ ?_, ⟨f.1, f.2.1, f.2.2.1, f.2.2.2.1, f.2.2.2.2.1, f.2.2.2.2.2.1, f.2.2.2.2.2.2.1, by rw [f.2.2.2.2.2.2.2]; exact hbz⟩, lm_rM_r⟩
    clear hg f
    repeat (first
    | ((with_reducible apply lm_sI); exact rfl)
    | ((with_reducible apply lm_sR); exact rfl)
    | ((with_reducible apply lm_sS); exact rfl; exact rfl)
    | ((with_reducible apply lm_sL); exact rfl)
    | ((with_reducible apply lm_sP); exact rfl; exact rfl)
    | ((with_reducible apply lm_sPL); exact rfl; exact rfl)
    | ((with_reducible apply lm_sAA); exact rfl; first | exact rfl | exact lm_roO (by omega) | exact lm_roM (by omega))
    | ((with_reducible apply lm_sI); exact lm_fpL (by omega))
    | ((with_reducible apply lm_sR); exact lm_fpB (by omega))
    | ((with_reducible apply lm_sP); exact lm_fpL (by omega); exact rfl)
    | ((with_reducible apply lm_sS); exact lm_ocO (by omega); exact rfl)
    | ((with_reducible apply lm_sA); exact rfl; omega)
    | ((with_reducible apply lm_sJ); exact rfl; omega)
    | ((with_reducible apply lm_sB); (first | exact rfl | exact lm_arB (by omega) | exact lm_arM (by omega)); omega)
    | ((with_reducible apply lm_wA); exact rfl; omega)
    | ((with_reducible apply lm_wJ); exact rfl; omega)
    | ((with_reducible apply lm_wB); (first | exact rfl | exact lm_arB (by omega) | exact lm_arM (by omega)); omega)
    | ((with_reducible apply lm_sAl); (first | exact rfl | exact lm_arB (by omega) | exact lm_arM (by omega)); omega)
    | ((with_reducible apply lm_iW); decide)
    | ((with_reducible apply lm_iTd); exact rfl)
    | ((with_reducible apply lm_iFd); exact rfl)
    | ((with_reducible apply lm_sSt); exact rfl; exact rfl; exact rfl)
    | ((with_reducible apply lm_sIz); exact rfl)
    | ((with_reducible apply lm_sPz); exact rfl; exact rfl; decide))
    refine lm_e107_28 ?_
    unfold lm_q107_28
    repeat (first
    | ((with_reducible apply lm_sI); exact rfl)
    | ((with_reducible apply lm_sR); exact rfl)
    | ((with_reducible apply lm_sS); exact rfl; exact rfl)
    | ((with_reducible apply lm_sL); exact rfl)
    | ((with_reducible apply lm_sP); exact rfl; exact rfl)
    | ((with_reducible apply lm_sPL); exact rfl; exact rfl)
    | ((with_reducible apply lm_sAA); exact rfl; first | exact rfl | exact lm_roO (by omega) | exact lm_roM (by omega))
    | ((with_reducible apply lm_sI); exact lm_fpL (by omega))
    | ((with_reducible apply lm_sR); exact lm_fpB (by omega))
    | ((with_reducible apply lm_sP); exact lm_fpL (by omega); exact rfl)
    | ((with_reducible apply lm_sS); exact lm_ocO (by omega); exact rfl)
    | ((with_reducible apply lm_sA); exact rfl; omega)
    | ((with_reducible apply lm_sJ); exact rfl; omega)
    | ((with_reducible apply lm_sB); (first | exact rfl | exact lm_arB (by omega) | exact lm_arM (by omega)); omega)
    | ((with_reducible apply lm_wA); exact rfl; omega)
    | ((with_reducible apply lm_wJ); exact rfl; omega)
    | ((with_reducible apply lm_wB); (first | exact rfl | exact lm_arB (by omega) | exact lm_arM (by omega)); omega)
    | ((with_reducible apply lm_sAl); (first | exact rfl | exact lm_arB (by omega) | exact lm_arM (by omega)); omega)
    | ((with_reducible apply lm_iW); decide)
    | ((with_reducible apply lm_iTd); exact rfl)
    | ((with_reducible apply lm_iFd); exact rfl)
    | ((with_reducible apply lm_sSt); exact rfl; exact rfl; exact rfl)
    | ((with_reducible apply lm_sIz); exact rfl)
    | ((with_reducible apply lm_sPz); exact rfl; exact rfl; decide))
    refine lm_e107_68 ?_
    unfold lm_q107_68
    repeat (first
    | ((with_reducible apply lm_sI); exact rfl)
    | ((with_reducible apply lm_sR); exact rfl)
    | ((with_reducible apply lm_sS); exact rfl; exact rfl)
    | ((with_reducible apply lm_sL); exact rfl)
    | ((with_reducible apply lm_sP); exact rfl; exact rfl)
    | ((with_reducible apply lm_sPL); exact rfl; exact rfl)
    | ((with_reducible apply lm_sAA); exact rfl; first | exact rfl | exact lm_roO (by omega) | exact lm_roM (by omega))
    | ((with_reducible apply lm_sI); exact lm_fpL (by omega))
    | ((with_reducible apply lm_sR); exact lm_fpB (by omega))
    | ((with_reducible apply lm_sP); exact lm_fpL (by omega); exact rfl)
    | ((with_reducible apply lm_sS); exact lm_ocO (by omega); exact rfl)
    | ((with_reducible apply lm_sA); exact rfl; omega)
    | ((with_reducible apply lm_sJ); exact rfl; omega)
    | ((with_reducible apply lm_sB); (first | exact rfl | exact lm_arB (by omega) | exact lm_arM (by omega)); omega)
    | ((with_reducible apply lm_wA); exact rfl; omega)
    | ((with_reducible apply lm_wJ); exact rfl; omega)
    | ((with_reducible apply lm_wB); (first | exact rfl | exact lm_arB (by omega) | exact lm_arM (by omega)); omega)
    | ((with_reducible apply lm_sAl); (first | exact rfl | exact lm_arB (by omega) | exact lm_arM (by omega)); omega)
    | ((with_reducible apply lm_iW); decide)
    | ((with_reducible apply lm_iTd); exact rfl)
    | ((with_reducible apply lm_iFd); exact rfl)
    | ((with_reducible apply lm_sSt); exact rfl; exact rfl; exact rfl)
    | ((with_reducible apply lm_sIz); exact rfl)
    | ((with_reducible apply lm_sPz); exact rfl; exact rfl; decide))
    refine lm_e107_108 ?_
    unfold lm_q107_108
    repeat (first
    | ((with_reducible apply lm_sI); exact rfl)
    | ((with_reducible apply lm_sR); exact rfl)
    | ((with_reducible apply lm_sS); exact rfl; exact rfl)
    | ((with_reducible apply lm_sL); exact rfl)
    | ((with_reducible apply lm_sP); exact rfl; exact rfl)
    | ((with_reducible apply lm_sPL); exact rfl; exact rfl)
    | ((with_reducible apply lm_sAA); exact rfl; first | exact rfl | exact lm_roO (by omega) | exact lm_roM (by omega))
    | ((with_reducible apply lm_sI); exact lm_fpL (by omega))
    | ((with_reducible apply lm_sR); exact lm_fpB (by omega))
    | ((with_reducible apply lm_sP); exact lm_fpL (by omega); exact rfl)
    | ((with_reducible apply lm_sS); exact lm_ocO (by omega); exact rfl)
    | ((with_reducible apply lm_sA); exact rfl; omega)
    | ((with_reducible apply lm_sJ); exact rfl; omega)
    | ((with_reducible apply lm_sB); (first | exact rfl | exact lm_arB (by omega) | exact lm_arM (by omega)); omega)
    | ((with_reducible apply lm_wA); exact rfl; omega)
    | ((with_reducible apply lm_wJ); exact rfl; omega)
    | ((with_reducible apply lm_wB); (first | exact rfl | exact lm_arB (by omega) | exact lm_arM (by omega)); omega)
    | ((with_reducible apply lm_sAl); (first | exact rfl | exact lm_arB (by omega) | exact lm_arM (by omega)); omega)
    | ((with_reducible apply lm_iW); decide)
    | ((with_reducible apply lm_iTd); exact rfl)
    | ((with_reducible apply lm_iFd); exact rfl)
    | ((with_reducible apply lm_sSt); exact rfl; exact rfl; exact rfl)
    | ((with_reducible apply lm_sIz); exact rfl)
    | ((with_reducible apply lm_sPz); exact rfl; exact rfl; decide))
    refine lm_e107_158 ?_
    unfold lm_q107_158
    repeat (first
    | ((with_reducible apply lm_sI); exact rfl)
    | ((with_reducible apply lm_sR); exact rfl)
    | ((with_reducible apply lm_sS); exact rfl; exact rfl)
    | ((with_reducible apply lm_sL); exact rfl)
    | ((with_reducible apply lm_sP); exact rfl; exact rfl)
    | ((with_reducible apply lm_sPL); exact rfl; exact rfl)
    | ((with_reducible apply lm_sAA); exact rfl; first | exact rfl | exact lm_roO (by omega) | exact lm_roM (by omega))
    | ((with_reducible apply lm_sI); exact lm_fpL (by omega))
    | ((with_reducible apply lm_sR); exact lm_fpB (by omega))
    | ((with_reducible apply lm_sP); exact lm_fpL (by omega); exact rfl)
    | ((with_reducible apply lm_sS); exact lm_ocO (by omega); exact rfl)
    | ((with_reducible apply lm_sA); exact rfl; omega)
    | ((with_reducible apply lm_sJ); exact rfl; omega)
    | ((with_reducible apply lm_sB); (first | exact rfl | exact lm_arB (by omega) | exact lm_arM (by omega)); omega)
    | ((with_reducible apply lm_wA); exact rfl; omega)
    | ((with_reducible apply lm_wJ); exact rfl; omega)
    | ((with_reducible apply lm_wB); (first | exact rfl | exact lm_arB (by omega) | exact lm_arM (by omega)); omega)
    | ((with_reducible apply lm_sAl); (first | exact rfl | exact lm_arB (by omega) | exact lm_arM (by omega)); omega)
    | ((with_reducible apply lm_iW); decide)
    | ((with_reducible apply lm_iTd); exact rfl)
    | ((with_reducible apply lm_iFd); exact rfl)
    | ((with_reducible apply lm_sSt); exact rfl; exact rfl; exact rfl)
    | ((with_reducible apply lm_sIz); exact rfl)
    | ((with_reducible apply lm_sPz); exact rfl; exact rfl; decide))
    refine lm_e107_181 ?_
    unfold lm_q107_181
    exact e
  | 4, _ =>
    have e := hg 32 64 8 14 22 (by decide) hs (by decide)
    have f := lm_rM_f (m := m) (N := 32) (H := 64) (D := 8) (A := 14) (K := 22) (z := lm_z sk)
    refine ⟨lm_rM m 32 64 8 14 22 (lm_z sk), hd _ ?_, ⟨f.1, f.2.1, f.2.2.1, f.2.2.2.1, f.2.2.2.2.1, f.2.2.2.2.2.1, f.2.2.2.2.2.2.1, by rw [f.2.2.2.2.2.2.2]; exact hbz⟩, lm_rM_r⟩
    clear hg f
    repeat (first
    | ((with_reducible apply lm_sI); exact rfl)
    | ((with_reducible apply lm_sR); exact rfl)
    | ((with_reducible apply lm_sS); exact rfl; exact rfl)
    | ((with_reducible apply lm_sL); exact rfl)
    | ((with_reducible apply lm_sP); exact rfl; exact rfl)
    | ((with_reducible apply lm_sPL); exact rfl; exact rfl)
    | ((with_reducible apply lm_sAA); exact rfl; first | exact rfl | exact lm_roO (by omega) | exact lm_roM (by omega))
    | ((with_reducible apply lm_sI); exact lm_fpL (by omega))
    | ((with_reducible apply lm_sR); exact lm_fpB (by omega))
    | ((with_reducible apply lm_sP); exact lm_fpL (by omega); exact rfl)
    | ((with_reducible apply lm_sS); exact lm_ocO (by omega); exact rfl)
    | ((with_reducible apply lm_sA); exact rfl; omega)
    | ((with_reducible apply lm_sJ); exact rfl; omega)
    | ((with_reducible apply lm_sB); (first | exact rfl | exact lm_arB (by omega) | exact lm_arM (by omega)); omega)
    | ((with_reducible apply lm_wA); exact rfl; omega)
    | ((with_reducible apply lm_wJ); exact rfl; omega)
    | ((with_reducible apply lm_wB); (first | exact rfl | exact lm_arB (by omega) | exact lm_arM (by omega)); omega)
    | ((with_reducible apply lm_sAl); (first | exact rfl | exact lm_arB (by omega) | exact lm_arM (by omega)); omega)
    | ((with_reducible apply lm_iW); decide)
    | ((with_reducible apply lm_iTd); exact rfl)
    | ((with_reducible apply lm_iFd); exact rfl)
    | ((with_reducible apply lm_sSt); exact rfl; exact rfl; exact rfl)
    | ((with_reducible apply lm_sIz); exact rfl)
    | ((with_reducible apply lm_sPz); exact rfl; exact rfl; decide))
    refine lm_e107_28 ?_
    unfold lm_q107_28
    repeat (first
    | ((with_reducible apply lm_sI); exact rfl)
    | ((with_reducible apply lm_sR); exact rfl)
    | ((with_reducible apply lm_sS); exact rfl; exact rfl)
    | ((with_reducible apply lm_sL); exact rfl)
    | ((with_reducible apply lm_sP); exact rfl; exact rfl)
    | ((with_reducible apply lm_sPL); exact rfl; exact rfl)
    | ((with_reducible apply lm_sAA); exact rfl; first | exact rfl | exact lm_roO (by omega) | exact lm_roM (by omega))
    | ((with_reducible apply lm_sI); exact lm_fpL (by omega))
    | ((with_reducible apply lm_sR); exact lm_fpB (by omega))
    | ((with_reducible apply lm_sP); exact lm_fpL (by omega); exact rfl)
    | ((with_reducible apply lm_sS); exact lm_ocO (by omega); exact rfl)
    | ((with_reducible apply lm_sA); exact rfl; omega)
    | ((with_reducible apply lm_sJ); exact rfl; omega)
    | ((with_reducible apply lm_sB); (first | exact rfl | exact lm_arB (by omega) | exact lm_arM (by omega)); omega)
    | ((with_reducible apply lm_wA); exact rfl; omega)
    | ((with_reducible apply lm_wJ); exact rfl; omega)
    | ((with_reducible apply lm_wB); (first | exact rfl | exact lm_arB (by omega) | exact lm_arM (by omega)); omega)
    | ((with_reducible apply lm_sAl); (first | exact rfl | exact lm_arB (by omega) | exact lm_arM (by omega)); omega)
    | ((with_reducible apply lm_iW); decide)
    | ((with_reducible apply lm_iTd); exact rfl)
    | ((with_reducible apply lm_iFd); exact rfl)
    | ((with_reducible apply lm_sSt); exact rfl; exact rfl; exact rfl)
    | ((with_reducible apply lm_sIz); exact rfl)
    | ((with_reducible apply lm_sPz); exact rfl; exact rfl; decide))
    refine lm_e107_68 ?_
    unfold lm_q107_68
    repeat (first
    | ((with_reducible apply lm_sI); exact rfl)
    | ((with_reducible apply lm_sR); exact rfl)
    | ((with_reducible apply lm_sS); exact rfl; exact rfl)
    | ((with_reducible apply lm_sL); exact rfl)
    | ((with_reducible apply lm_sP); exact rfl; exact rfl)
    | ((with_reducible apply lm_sPL); exact rfl; exact rfl)
    | ((with_reducible apply lm_sAA); exact rfl; first | exact rfl | exact lm_roO (by omega) | exact lm_roM (by omega))
    | ((with_reducible apply lm_sI); exact lm_fpL (by omega))
    | ((with_reducible apply lm_sR); exact lm_fpB (by omega))
    | ((with_reducible apply lm_sP); exact lm_fpL (by omega); exact rfl)
    | ((with_reducible apply lm_sS); exact lm_ocO (by omega); exact rfl)
    | ((with_reducible apply lm_sA); exact rfl; omega)
    | ((with_reducible apply lm_sJ); exact rfl; omega)
    | ((with_reducible apply lm_sB); (first | exact rfl | exact lm_arB (by omega) | exact lm_arM (by omega)); omega)
    | ((with_reducible apply lm_wA); exact rfl; omega)
    | ((with_reducible apply lm_wJ); exact rfl; omega)
    | ((with_reducible apply lm_wB); (first | exact rfl | exact lm_arB (by omega) | exact lm_arM (by omega)); omega)
    | ((with_reducible apply lm_sAl); (first | exact rfl | exact lm_arB (by omega) | exact lm_arM (by omega)); omega)
    | ((with_reducible apply lm_iW); decide)
    | ((with_reducible apply lm_iTd); exact rfl)
    | ((with_reducible apply lm_iFd); exact rfl)
    | ((with_reducible apply lm_sSt); exact rfl; exact rfl; exact rfl)
    | ((with_reducible apply lm_sIz); exact rfl)
    | ((with_reducible apply lm_sPz); exact rfl; exact rfl; decide))
    refine lm_e107_108 ?_
    unfold lm_q107_108
    repeat (first
    | ((with_reducible apply lm_sI); exact rfl)
    | ((with_reducible apply lm_sR); exact rfl)
    | ((with_reducible apply lm_sS); exact rfl; exact rfl)
    | ((with_reducible apply lm_sL); exact rfl)
    | ((with_reducible apply lm_sP); exact rfl; exact rfl)
    | ((with_reducible apply lm_sPL); exact rfl; exact rfl)
    | ((with_reducible apply lm_sAA); exact rfl; first | exact rfl | exact lm_roO (by omega) | exact lm_roM (by omega))
    | ((with_reducible apply lm_sI); exact lm_fpL (by omega))
    | ((with_reducible apply lm_sR); exact lm_fpB (by omega))
    | ((with_reducible apply lm_sP); exact lm_fpL (by omega); exact rfl)
    | ((with_reducible apply lm_sS); exact lm_ocO (by omega); exact rfl)
    | ((with_reducible apply lm_sA); exact rfl; omega)
    | ((with_reducible apply lm_sJ); exact rfl; omega)
    | ((with_reducible apply lm_sB); (first | exact rfl | exact lm_arB (by omega) | exact lm_arM (by omega)); omega)
    | ((with_reducible apply lm_wA); exact rfl; omega)
    | ((with_reducible apply lm_wJ); exact rfl; omega)
    | ((with_reducible apply lm_wB); (first | exact rfl | exact lm_arB (by omega) | exact lm_arM (by omega)); omega)
    | ((with_reducible apply lm_sAl); (first | exact rfl | exact lm_arB (by omega) | exact lm_arM (by omega)); omega)
    | ((with_reducible apply lm_iW); decide)
    | ((with_reducible apply lm_iTd); exact rfl)
    | ((with_reducible apply lm_iFd); exact rfl)
    | ((with_reducible apply lm_sSt); exact rfl; exact rfl; exact rfl)
    | ((with_reducible apply lm_sIz); exact rfl)
    | ((with_reducible apply lm_sPz); exact rfl; exact rfl; decide))
    refine lm_e107_141 ?_
    unfold lm_q107_141
    refine lm_e107_158 ?_
    unfold lm_q107_158
    repeat (first
    | ((with_reducible apply lm_sI); exact rfl)
    | ((with_reducible apply lm_sR); exact rfl)
    | ((with_reducible apply lm_sS); exact rfl; exact rfl)
    | ((with_reducible apply lm_sL); exact rfl)
    | ((with_reducible apply lm_sP); exact rfl; exact rfl)
    | ((with_reducible apply lm_sPL); exact rfl; exact rfl)
    | ((with_reducible apply lm_sAA); exact rfl; first | exact rfl | exact lm_roO (by omega) | exact lm_roM (by omega))
    | ((with_reducible apply lm_sI); exact lm_fpL (by omega))
    | ((with_reducible apply lm_sR); exact lm_fpB (by omega))
    | ((with_reducible apply lm_sP); exact lm_fpL (by omega); exact rfl)
    | ((with_reducible apply lm_sS); exact lm_ocO (by omega); exact rfl)
    | ((with_reducible apply lm_sA); exact rfl; omega)
    | ((with_reducible apply lm_sJ); exact rfl; omega)
    | ((with_reducible apply lm_sB); (first | exact rfl | exact lm_arB (by omega) | exact lm_arM (by omega)); omega)
    | ((with_reducible apply lm_wA); exact rfl; omega)
    | ((with_reducible apply lm_wJ); exact rfl; omega)
    | ((with_reducible apply lm_wB); (first | exact rfl | exact lm_arB (by omega) | exact lm_arM (by omega)); omega)
    | ((with_reducible apply lm_sAl); (first | exact rfl | exact lm_arB (by omega) | exact lm_arM (by omega)); omega)
    | ((with_reducible apply lm_iW); decide)
    | ((with_reducible apply lm_iTd); exact rfl)
    | ((with_reducible apply lm_iFd); exact rfl)
    | ((with_reducible apply lm_sSt); exact rfl; exact rfl; exact rfl)
    | ((with_reducible apply lm_sIz); exact rfl)
    | ((with_reducible apply lm_sPz); exact rfl; exact rfl; decide))
    exact e
  | 5, _ =>
    have e := hg 32 68 17 9 35 (by decide) hs (by decide)
    have f := lm_rM_f (m := m) (N := 32) (H := 68) (D := 17) (A := 9) (K := 35) (z := lm_z sk)
    refine ⟨lm_rM m 32 68 17 9 35 (lm_z sk), hd _ ?_, ⟨f.1, f.2.1, f.2.2.1, f.2.2.2.1, f.2.2.2.2.1, f.2.2.2.2.2.1, f.2.2.2.2.2.2.1, by rw [f.2.2.2.2.2.2.2]; exact hbz⟩, lm_rM_r⟩
    clear hg f
    repeat (first
    | ((with_reducible apply lm_sI); exact rfl)
    | ((with_reducible apply lm_sR); exact rfl)
    | ((with_reducible apply lm_sS); exact rfl; exact rfl)
    | ((with_reducible apply lm_sL); exact rfl)
    | ((with_reducible apply lm_sP); exact rfl; exact rfl)
    | ((with_reducible apply lm_sPL); exact rfl; exact rfl)
    | ((with_reducible apply lm_sAA); exact rfl; first | exact rfl | exact lm_roO (by omega) | exact lm_roM (by omega))
    | ((with_reducible apply lm_sI); exact lm_fpL (by omega))
    | ((with_reducible apply lm_sR); exact lm_fpB (by omega))
    | ((with_reducible apply lm_sP); exact lm_fpL (by omega); exact rfl)
    | ((with_reducible apply lm_sS); exact lm_ocO (by omega); exact rfl)
    | ((with_reducible apply lm_sA); exact rfl; omega)
    | ((with_reducible apply lm_sJ); exact rfl; omega)
    | ((with_reducible apply lm_sB); (first | exact rfl | exact lm_arB (by omega) | exact lm_arM (by omega)); omega)
    | ((with_reducible apply lm_wA); exact rfl; omega)
    | ((with_reducible apply lm_wJ); exact rfl; omega)
    | ((with_reducible apply lm_wB); (first | exact rfl | exact lm_arB (by omega) | exact lm_arM (by omega)); omega)
    | ((with_reducible apply lm_sAl); (first | exact rfl | exact lm_arB (by omega) | exact lm_arM (by omega)); omega)
    | ((with_reducible apply lm_iW); decide)
    | ((with_reducible apply lm_iTd); exact rfl)
    | ((with_reducible apply lm_iFd); exact rfl)
    | ((with_reducible apply lm_sSt); exact rfl; exact rfl; exact rfl)
    | ((with_reducible apply lm_sIz); exact rfl)
    | ((with_reducible apply lm_sPz); exact rfl; exact rfl; decide))
    refine lm_e107_28 ?_
    unfold lm_q107_28
    repeat (first
    | ((with_reducible apply lm_sI); exact rfl)
    | ((with_reducible apply lm_sR); exact rfl)
    | ((with_reducible apply lm_sS); exact rfl; exact rfl)
    | ((with_reducible apply lm_sL); exact rfl)
    | ((with_reducible apply lm_sP); exact rfl; exact rfl)
    | ((with_reducible apply lm_sPL); exact rfl; exact rfl)
    | ((with_reducible apply lm_sAA); exact rfl; first | exact rfl | exact lm_roO (by omega) | exact lm_roM (by omega))
    | ((with_reducible apply lm_sI); exact lm_fpL (by omega))
    | ((with_reducible apply lm_sR); exact lm_fpB (by omega))
    | ((with_reducible apply lm_sP); exact lm_fpL (by omega); exact rfl)
    | ((with_reducible apply lm_sS); exact lm_ocO (by omega); exact rfl)
    | ((with_reducible apply lm_sA); exact rfl; omega)
    | ((with_reducible apply lm_sJ); exact rfl; omega)
    | ((with_reducible apply lm_sB); (first | exact rfl | exact lm_arB (by omega) | exact lm_arM (by omega)); omega)
    | ((with_reducible apply lm_wA); exact rfl; omega)
    | ((with_reducible apply lm_wJ); exact rfl; omega)
    | ((with_reducible apply lm_wB); (first | exact rfl | exact lm_arB (by omega) | exact lm_arM (by omega)); omega)
    | ((with_reducible apply lm_sAl); (first | exact rfl | exact lm_arB (by omega) | exact lm_arM (by omega)); omega)
    | ((with_reducible apply lm_iW); decide)
    | ((with_reducible apply lm_iTd); exact rfl)
    | ((with_reducible apply lm_iFd); exact rfl)
    | ((with_reducible apply lm_sSt); exact rfl; exact rfl; exact rfl)
    | ((with_reducible apply lm_sIz); exact rfl)
    | ((with_reducible apply lm_sPz); exact rfl; exact rfl; decide))
    refine lm_e107_68 ?_
    unfold lm_q107_68
    repeat (first
    | ((with_reducible apply lm_sI); exact rfl)
    | ((with_reducible apply lm_sR); exact rfl)
    | ((with_reducible apply lm_sS); exact rfl; exact rfl)
    | ((with_reducible apply lm_sL); exact rfl)
    | ((with_reducible apply lm_sP); exact rfl; exact rfl)
    | ((with_reducible apply lm_sPL); exact rfl; exact rfl)
    | ((with_reducible apply lm_sAA); exact rfl; first | exact rfl | exact lm_roO (by omega) | exact lm_roM (by omega))
    | ((with_reducible apply lm_sI); exact lm_fpL (by omega))
    | ((with_reducible apply lm_sR); exact lm_fpB (by omega))
    | ((with_reducible apply lm_sP); exact lm_fpL (by omega); exact rfl)
    | ((with_reducible apply lm_sS); exact lm_ocO (by omega); exact rfl)
    | ((with_reducible apply lm_sA); exact rfl; omega)
    | ((with_reducible apply lm_sJ); exact rfl; omega)
    | ((with_reducible apply lm_sB); (first | exact rfl | exact lm_arB (by omega) | exact lm_arM (by omega)); omega)
    | ((with_reducible apply lm_wA); exact rfl; omega)
    | ((with_reducible apply lm_wJ); exact rfl; omega)
    | ((with_reducible apply lm_wB); (first | exact rfl | exact lm_arB (by omega) | exact lm_arM (by omega)); omega)
    | ((with_reducible apply lm_sAl); (first | exact rfl | exact lm_arB (by omega) | exact lm_arM (by omega)); omega)
    | ((with_reducible apply lm_iW); decide)
    | ((with_reducible apply lm_iTd); exact rfl)
    | ((with_reducible apply lm_iFd); exact rfl)
    | ((with_reducible apply lm_sSt); exact rfl; exact rfl; exact rfl)
    | ((with_reducible apply lm_sIz); exact rfl)
    | ((with_reducible apply lm_sPz); exact rfl; exact rfl; decide))
    refine lm_e107_108 ?_
    unfold lm_q107_108
    repeat (first
    | ((with_reducible apply lm_sI); exact rfl)
    | ((with_reducible apply lm_sR); exact rfl)
    | ((with_reducible apply lm_sS); exact rfl; exact rfl)
    | ((with_reducible apply lm_sL); exact rfl)
    | ((with_reducible apply lm_sP); exact rfl; exact rfl)
    | ((with_reducible apply lm_sPL); exact rfl; exact rfl)
    | ((with_reducible apply lm_sAA); exact rfl; first | exact rfl | exact lm_roO (by omega) | exact lm_roM (by omega))
    | ((with_reducible apply lm_sI); exact lm_fpL (by omega))
    | ((with_reducible apply lm_sR); exact lm_fpB (by omega))
    | ((with_reducible apply lm_sP); exact lm_fpL (by omega); exact rfl)
    | ((with_reducible apply lm_sS); exact lm_ocO (by omega); exact rfl)
    | ((with_reducible apply lm_sA); exact rfl; omega)
    | ((with_reducible apply lm_sJ); exact rfl; omega)
    | ((with_reducible apply lm_sB); (first | exact rfl | exact lm_arB (by omega) | exact lm_arM (by omega)); omega)
    | ((with_reducible apply lm_wA); exact rfl; omega)
    | ((with_reducible apply lm_wJ); exact rfl; omega)
    | ((with_reducible apply lm_wB); (first | exact rfl | exact lm_arB (by omega) | exact lm_arM (by omega)); omega)
    | ((with_reducible apply lm_sAl); (first | exact rfl | exact lm_arB (by omega) | exact lm_arM (by omega)); omega)
    | ((with_reducible apply lm_iW); decide)
    | ((with_reducible apply lm_iTd); exact rfl)
    | ((with_reducible apply lm_iFd); exact rfl)
    | ((with_reducible apply lm_sSt); exact rfl; exact rfl; exact rfl)
    | ((with_reducible apply lm_sIz); exact rfl)
    | ((with_reducible apply lm_sPz); exact rfl; exact rfl; decide))
    refine lm_e107_158 ?_
    unfold lm_q107_158
    repeat (first
    | ((with_reducible apply lm_sI); exact rfl)
    | ((with_reducible apply lm_sR); exact rfl)
    | ((with_reducible apply lm_sS); exact rfl; exact rfl)
    | ((with_reducible apply lm_sL); exact rfl)
    | ((with_reducible apply lm_sP); exact rfl; exact rfl)
    | ((with_reducible apply lm_sPL); exact rfl; exact rfl)
    | ((with_reducible apply lm_sAA); exact rfl; first | exact rfl | exact lm_roO (by omega) | exact lm_roM (by omega))
    | ((with_reducible apply lm_sI); exact lm_fpL (by omega))
    | ((with_reducible apply lm_sR); exact lm_fpB (by omega))
    | ((with_reducible apply lm_sP); exact lm_fpL (by omega); exact rfl)
    | ((with_reducible apply lm_sS); exact lm_ocO (by omega); exact rfl)
    | ((with_reducible apply lm_sA); exact rfl; omega)
    | ((with_reducible apply lm_sJ); exact rfl; omega)
    | ((with_reducible apply lm_sB); (first | exact rfl | exact lm_arB (by omega) | exact lm_arM (by omega)); omega)
    | ((with_reducible apply lm_wA); exact rfl; omega)
    | ((with_reducible apply lm_wJ); exact rfl; omega)
    | ((with_reducible apply lm_wB); (first | exact rfl | exact lm_arB (by omega) | exact lm_arM (by omega)); omega)
    | ((with_reducible apply lm_sAl); (first | exact rfl | exact lm_arB (by omega) | exact lm_arM (by omega)); omega)
    | ((with_reducible apply lm_iW); decide)
    | ((with_reducible apply lm_iTd); exact rfl)
    | ((with_reducible apply lm_iFd); exact rfl)
    | ((with_reducible apply lm_sSt); exact rfl; exact rfl; exact rfl)
    | ((with_reducible apply lm_sIz); exact rfl)
    | ((with_reducible apply lm_sPz); exact rfl; exact rfl; decide))
    exact e
end LMTC
