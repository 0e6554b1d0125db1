/-! ===== the sets of Slh in the reference ===== -/
/-- what the reference's choice leaves -/
def lm_PM (m : lm_MI) (s : Nat) (m' : lm_MI) : Prop := m' 203 67 = Int32.ofNat (lm_sn s) ∧ m' 203 69 = Int32.ofNat (lm_sd s) ∧ m' 203 70 = Int32.ofNat (lm_sh s) ∧ (∀ j, j < 67 → m' 203 j = m 203 j) ∧ ∀ q, q ≠ 203 → q ≠ 333 → m' q = m q
section LMSM
variable {sc : lm_H} {d s : Nat} {m : lm_MI} {n : lm_ML} {x : lm_H × Nat × Nat}
theorem lm_l107 : ∀ j t, t + j = 32 → lm_rn sc d lm_m107.2.2.2.2.1 (lm_reg lm_m107.2.2.2.2.2) (253, [(0, .ref 203), (3, .int (Int32.ofNat t))], []) (lm_w (lm_fil m 333 0 t fun _ => 0) n x) = some (.ok none, lm_w (lm_fil m 333 0 32 fun _ => 0) n x) := by
  intro j
  induction j with
  | zero =>
    intro t h4
    have h4 : t = 32 := h4
    subst h4
    refine lm_e107_253 ?_
    unfold lm_q107_253
    rw [lm_K32]
    exact lm_geT (by decide) (by decide) (by decide) rfl
  | succ j ih =>
    intro t h4
    refine lm_e107_253 ?_
    unfold lm_q107_253
    rw [lm_K32]
    refine lm_geF (by omega) (by omega) (by omega) ?_
    repeat (first
    | ((with_reducible apply lm_sI); exact rfl)
    | ((with_reducible apply lm_sR); exact rfl)
    | ((with_reducible apply lm_sS); exact rfl; exact rfl)
    | ((with_reducible apply lm_sL); exact rfl)
    | ((with_reducible apply lm_sP); exact rfl; exact rfl)
    | ((with_reducible apply lm_sPL); exact rfl; exact rfl)
    | ((with_reducible apply lm_sAA); exact rfl; first | exact rfl | exact lm_roO (by omega) | exact lm_roM (by omega))
    | ((with_reducible apply lm_sI); exact lm_fpL (by omega))
    | ((with_reducible apply lm_sR); exact lm_fpB (by omega))
    | ((with_reducible apply lm_sP); exact lm_fpL (by omega); exact rfl)
    | ((with_reducible apply lm_sS); exact lm_ocO (by omega); exact rfl)
    | ((with_reducible apply lm_sA); exact rfl; omega)
    | ((with_reducible apply lm_sJ); exact rfl; omega)
    | ((with_reducible apply lm_sB); (first | exact rfl | exact lm_arB (by omega) | exact lm_arM (by omega)); omega)
    | ((with_reducible apply lm_wA); exact rfl; omega)
    | ((with_reducible apply lm_wJ); exact rfl; omega)
    | ((with_reducible apply lm_wB); (first | exact rfl | exact lm_arB (by omega) | exact lm_arM (by omega)); omega)
    | ((with_reducible apply lm_sAl); (first | exact rfl | exact lm_arB (by omega) | exact lm_arM (by omega)); omega)
    | ((with_reducible apply lm_iW); decide))
    rw [show Int32.ofInt 0 = (fun _ : Nat => (0 : Int32)) t from rfl, lm_fl_step (g := fun _ => 0) (Nat.zero_le t), show Int32.ofNat t + Int32.ofInt 1 = Int32.ofNat (t + 1) from lm_oa t 1]
    exact ih (t + 1) (by omega)
/-- behind n, h, d, a, k -/
theorem lm_u107e {N H D A K : Nat} (hD : 0 < D) (hs : s ≤ 11) (hb : N ≤ 100 ∧ H ≤ 100 ∧ D ≤ 100) : ∃ m', lm_rn sc d lm_m107.2.2.2.2.1 (lm_reg lm_m107.2.2.2.2.2) (208, [(0, .ref 203), (1, .int (Int32.ofNat s))], [.int (Int32.ofNat K), .ref 203]) (lm_w (lm_u (lm_u (lm_u (lm_u m 203 67 (Int32.ofNat N)) 203 68 (Int32.ofNat H)) 203 69 (Int32.ofNat D)) 203 71 (Int32.ofNat A)) n x) = some (.ok none, lm_w m' n x) ∧ m' 203 67 = Int32.ofNat N ∧ m' 203 69 = Int32.ofNat D ∧ m' 203 70 = Int32.ofNat (H / D) ∧ (∀ j, j < 67 → m' 203 j = m 203 j) ∧ ∀ q, q ≠ 203 → q ≠ 333 → m' q = m q := by
  have fin : ∀ z : Int32, (z = 0 ∨ z = 1) → lm_rn sc d lm_m107.2.2.2.2.1 (lm_reg lm_m107.2.2.2.2.2) (248, [(0, .ref 203)], [.int z, .ref 203]) (lm_w (lm_u (lm_u (lm_u (lm_u (lm_u (lm_u (lm_u m 203 67 (Int32.ofNat N)) 203 68 (Int32.ofNat H)) 203 69 (Int32.ofNat D)) 203 71 (Int32.ofNat A)) 203 72 (Int32.ofNat K)) 203 70 (Int32.ofNat (H / D))) 203 73 (Int32.ofNat (2 * N + 3))) n x) = some (.ok none, lm_w (lm_fil (lm_u (lm_u (lm_u (lm_u (lm_u (lm_u (lm_u (lm_u m 203 67 (Int32.ofNat N)) 203 68 (Int32.ofNat H)) 203 69 (Int32.ofNat D)) 203 71 (Int32.ofNat A)) 203 72 (Int32.ofNat K)) 203 70 (Int32.ofNat (H / D))) 203 73 (Int32.ofNat (2 * N + 3))) 203 74 z) 333 0 32 fun _ => 0) n x) := by
    intro z hz
    refine lm_e107_248 ?_
    unfold lm_q107_248
    refine lm_sPz rfl rfl hz ?_
    rw [lm_K0]
    have g := lm_l107 (sc := sc) (d := d) (m := lm_u (lm_u (lm_u (lm_u (lm_u (lm_u (lm_u (lm_u m 203 67 (Int32.ofNat N)) 203 68 (Int32.ofNat H)) 203 69 (Int32.ofNat D)) 203 71 (Int32.ofNat A)) 203 72 (Int32.ofNat K)) 203 70 (Int32.ofNat (H / D))) 203 73 (Int32.ofNat (2 * N + 3))) 203 74 z) (n := n) (x := x) 32 0 rfl
    rw [lm_fl_nil] at g
    exact g
  have post : ∀ z : Int32, lm_fil (lm_u (lm_u (lm_u (lm_u (lm_u (lm_u (lm_u (lm_u m 203 67 (Int32.ofNat N)) 203 68 (Int32.ofNat H)) 203 69 (Int32.ofNat D)) 203 71 (Int32.ofNat A)) 203 72 (Int32.ofNat K)) 203 70 (Int32.ofNat (H / D))) 203 73 (Int32.ofNat (2 * N + 3))) 203 74 z) 333 0 32 (fun _ => 0) 203 67 = Int32.ofNat N ∧ lm_fil (lm_u (lm_u (lm_u (lm_u (lm_u (lm_u (lm_u (lm_u m 203 67 (Int32.ofNat N)) 203 68 (Int32.ofNat H)) 203 69 (Int32.ofNat D)) 203 71 (Int32.ofNat A)) 203 72 (Int32.ofNat K)) 203 70 (Int32.ofNat (H / D))) 203 73 (Int32.ofNat (2 * N + 3))) 203 74 z) 333 0 32 (fun _ => 0) 203 69 = Int32.ofNat D ∧ lm_fil (lm_u (lm_u (lm_u (lm_u (lm_u (lm_u (lm_u (lm_u m 203 67 (Int32.ofNat N)) 203 68 (Int32.ofNat H)) 203 69 (Int32.ofNat D)) 203 71 (Int32.ofNat A)) 203 72 (Int32.ofNat K)) 203 70 (Int32.ofNat (H / D))) 203 73 (Int32.ofNat (2 * N + 3))) 203 74 z) 333 0 32 (fun _ => 0) 203 70 = Int32.ofNat (H / D) ∧ (∀ j, j < 67 → lm_fil (lm_u (lm_u (lm_u (lm_u (lm_u (lm_u (lm_u (lm_u m 203 67 (Int32.ofNat N)) 203 68 (Int32.ofNat H)) 203 69 (Int32.ofNat D)) 203 71 (Int32.ofNat A)) 203 72 (Int32.ofNat K)) 203 70 (Int32.ofNat (H / D))) 203 73 (Int32.ofNat (2 * N + 3))) 203 74 z) 333 0 32 (fun _ => 0) 203 j = m 203 j) ∧ ∀ q, q ≠ 203 → q ≠ 333 → lm_fil (lm_u (lm_u (lm_u (lm_u (lm_u (lm_u (lm_u (lm_u m 203 67 (Int32.ofNat N)) 203 68 (Int32.ofNat H)) 203 69 (Int32.ofNat D)) 203 71 (Int32.ofNat A)) 203 72 (Int32.ofNat K)) 203 70 (Int32.ofNat (H / D))) 203 73 (Int32.ofNat (2 * N + 3))) 203 74 z) 333 0 32 (fun _ => 0) q = m q := by
    intro z
    refine ⟨?_, ?_, ?_, fun j hj => ?_, fun q h1 h2 => ?_⟩
    · rw [lm_fl_row (by decide)]; simp [lm_rd]
    · rw [lm_fl_row (by decide)]; simp [lm_rd]
    · rw [lm_fl_row (by decide)]; simp [lm_rd]
    · rw [lm_fl_row (by decide), lm_u_ne (by omega), lm_u_ne (by omega), lm_u_ne (by omega), lm_u_ne (by omega), lm_u_ne (by omega), lm_u_ne (by omega), lm_u_ne (by omega), lm_u_ne (by omega)]
    · rw [lm_fl_row h2, lm_u_row h1, lm_u_row h1, lm_u_row h1, lm_u_row h1, lm_u_row h1, lm_u_row h1, lm_u_row h1, lm_u_row h1]
  have run : ∀ (z : Int32) (r : Except Nat lm_R × lm_S), (z = if 6 ≤ s then 0 else 1) → lm_rn sc d lm_m107.2.2.2.2.1 (lm_reg lm_m107.2.2.2.2.2) (248, [(0, .ref 203)], [.int z, .ref 203]) (lm_w (lm_u (lm_u (lm_u (lm_u (lm_u (lm_u (lm_u m 203 67 (Int32.ofNat N)) 203 68 (Int32.ofNat H)) 203 69 (Int32.ofNat D)) 203 71 (Int32.ofNat A)) 203 72 (Int32.ofNat K)) 203 70 (Int32.ofNat (H / D))) 203 73 (Int32.ofNat (2 * N + 3))) n x) = some r → lm_rn sc d lm_m107.2.2.2.2.1 (lm_reg lm_m107.2.2.2.2.2) (208, [(0, .ref 203), (1, .int (Int32.ofNat s))], [.int (Int32.ofNat K), .ref 203]) (lm_w (lm_u (lm_u (lm_u (lm_u m 203 67 (Int32.ofNat N)) 203 68 (Int32.ofNat H)) 203 69 (Int32.ofNat D)) 203 71 (Int32.ofNat A)) n x) = some r := by
    intro z r hz h
    refine lm_e107_208 ?_
    unfold lm_q107_208
    refine lm_sP rfl rfl ?_
    refine lm_sI rfl ?_
    refine lm_sI rfl ?_
    simp only [Nat.reduceDiv, Nat.reduceMod, lm_rd, Nat.reduceEqDiff, and_false, and_true, and_self, if_false, if_true]
    refine lm_iW (fun g => absurd ((lm_eq32 (b := 0) (by omega) (by omega)).mp g) (by omega)) ?_
    rw [lm_od (by omega) (by omega)]
    refine lm_sP rfl rfl ?_
    refine lm_sI rfl ?_
    simp only [Nat.reduceDiv, Nat.reduceMod, lm_rd, Nat.reduceEqDiff, and_false, and_true, and_self, if_false, if_true, lm_K2, lm_K3, lm_K6, lm_om, lm_oo]
    refine lm_sP rfl rfl ?_
    by_cases c : 6 ≤ s
    · rw [if_pos c] at hz
      subst hz
      exact lm_geT (by omega) (by omega) c h
    · rw [if_neg c] at hz
      subst hz
      exact lm_geF (by omega) (by omega) c h
  by_cases c : 6 ≤ s
  · exact ⟨_, run 0 _ (by rw [if_pos c]) (fin 0 (Or.inl rfl)), post 0⟩
  · exact ⟨_, run 1 _ (by rw [if_neg c]) (fin 1 (Or.inr rfl)), post 1⟩
theorem lm_u107 (hs : s ≤ 11) : ∃ m', lm_cal sc (d + 1) 107 [.ref 203, .int (Int32.ofNat s)] (lm_w m n x) = some (.ok none, lm_w m' n x) ∧ lm_PM m s m' := by
  have h6 : s % 6 < 6 := Nat.mod_lt _ (by decide)
  have hd : ∀ r : Except Nat lm_R × lm_S, lm_q107_0 sc (lm_cal sc d) (lm_rn sc d lm_m107.2.2.2.2.1 (lm_reg lm_m107.2.2.2.2.2)) 203 (Int32.ofNat s) (lm_w m n x) = some r → lm_cal sc (d + 1) 107 [.ref 203, .int (Int32.ofNat s)] (lm_w m n x) = some r := fun r h => lm_cal_of (Y := lm_m107) rfl rfl (lm_e107_0 h)
  have er : lm_rem (Int32.ofNat s) (Int32.ofInt 6) = Int32.ofNat (s % 6) := by rw [lm_K6, lm_orm (by omega) (by omega)]
  unfold lm_PM lm_sn lm_sd lm_sh
  unfold lm_q107_0 at hd
  rw [er] at hd
  generalize s % 6 = r at *
  match r, h6 with
  | 0, _ =>
    obtain ⟨m', e, f⟩ := lm_u107e (sc := sc) (d := d) (m := m) (n := n) (x := x) (s := s) (N := 16) (H := 63) (D := 7) (A := 12) (K := 14) (by decide) hs (by decide)
    refine ⟨m', hd _ ?_, f⟩
    repeat (first
    | ((with_reducible apply lm_sI); exact rfl)
    | ((with_reducible apply lm_sR); exact rfl)
    | ((with_reducible apply lm_sS); exact rfl; exact rfl)
    | ((with_reducible apply lm_sL); exact rfl)
    | ((with_reducible apply lm_sP); exact rfl; exact rfl)
    | ((with_reducible apply lm_sPL); exact rfl; exact rfl)
    | ((with_reducible apply lm_sAA); exact rfl; first | exact rfl | exact lm_roO (by omega) | exact lm_roM (by omega))
    | ((with_reducible apply lm_sI); exact lm_fpL (by omega))
    | ((with_reducible apply lm_sR); exact lm_fpB (by omega))
    | ((with_reducible apply lm_sP); exact lm_fpL (by omega); exact rfl)
    | ((with_reducible apply lm_sS); exact lm_ocO (by omega); exact rfl)
    | ((with_reducible apply lm_sA); exact rfl; omega)
    | ((with_reducible apply lm_sJ); exact rfl; omega)
    | ((with_reducible apply lm_sB); (first | exact rfl | exact lm_arB (by omega) | exact lm_arM (by omega)); omega)
    | ((with_reducible apply lm_wA); exact rfl; omega)
    | ((with_reducible apply lm_wJ); exact rfl; omega)
    | ((with_reducible apply lm_wB); (first | exact rfl | exact lm_arB (by omega) | exact lm_arM (by omega)); omega)
    | ((with_reducible apply lm_sAl); (first | exact rfl | exact lm_arB (by omega) | exact lm_arM (by omega)); omega)
    | ((with_reducible apply lm_iW); decide)
    | ((with_reducible apply lm_iTd); exact rfl)
    | ((with_reducible apply lm_iFd); exact rfl)
    | ((with_reducible apply lm_sSt); exact rfl; exact rfl; exact rfl)
    | ((with_reducible apply lm_sIz); exact rfl)
    | ((with_reducible apply lm_sPz); exact rfl; exact rfl; decide))
    refine lm_e107_28 ?_
    unfold lm_q107_28
    repeat (first
    | ((with_reducible apply lm_sI); exact rfl)
    | ((with_reducible apply lm_sR); exact rfl)
    | ((with_reducible apply lm_sS); exact rfl; exact rfl)
    | ((with_reducible apply lm_sL); exact rfl)
    | ((with_reducible apply lm_sP); exact rfl; exact rfl)
    | ((with_reducible apply lm_sPL); exact rfl; exact rfl)
    | ((with_reducible apply lm_sAA); exact rfl; first | exact rfl | exact lm_roO (by omega) | exact lm_roM (by omega))
    | ((with_reducible apply lm_sI); exact lm_fpL (by omega))
    | ((with_reducible apply lm_sR); exact lm_fpB (by omega))
    | ((with_reducible apply lm_sP); exact lm_fpL (by omega); exact rfl)
    | ((with_reducible apply lm_sS); exact lm_ocO (by omega); exact rfl)
    | ((with_reducible apply lm_sA); exact rfl; omega)
    | ((with_reducible apply lm_sJ); exact rfl; omega)
    | ((with_reducible apply lm_sB); (first | exact rfl | exact lm_arB (by omega) | exact lm_arM (by omega)); omega)
    | ((with_reducible apply lm_wA); exact rfl; omega)
    | ((with_reducible apply lm_wJ); exact rfl; omega)
    | ((with_reducible apply lm_wB); (first | exact rfl | exact lm_arB (by omega) | exact lm_arM (by omega)); omega)
    | ((with_reducible apply lm_sAl); (first | exact rfl | exact lm_arB (by omega) | exact lm_arM (by omega)); omega)
    | ((with_reducible apply lm_iW); decide)
    | ((with_reducible apply lm_iTd); exact rfl)
    | ((with_reducible apply lm_iFd); exact rfl)
    | ((with_reducible apply lm_sSt); exact rfl; exact rfl; exact rfl)
    | ((with_reducible apply lm_sIz); exact rfl)
    | ((with_reducible apply lm_sPz); exact rfl; exact rfl; decide))
    refine lm_e107_41 ?_
    unfold lm_q107_41
    refine lm_e107_68 ?_
    unfold lm_q107_68
    repeat (first
    | ((with_reducible apply lm_sI); exact rfl)
    | ((with_reducible apply lm_sR); exact rfl)
    | ((with_reducible apply lm_sS); exact rfl; exact rfl)
    | ((with_reducible apply lm_sL); exact rfl)
    | ((with_reducible apply lm_sP); exact rfl; exact rfl)
    | ((with_reducible apply lm_sPL); exact rfl; exact rfl)
    | ((with_reducible apply lm_sAA); exact rfl; first | exact rfl | exact lm_roO (by omega) | exact lm_roM (by omega))
    | ((with_reducible apply lm_sI); exact lm_fpL (by omega))
    | ((with_reducible apply lm_sR); exact lm_fpB (by omega))
    | ((with_reducible apply lm_sP); exact lm_fpL (by omega); exact rfl)
    | ((with_reducible apply lm_sS); exact lm_ocO (by omega); exact rfl)
    | ((with_reducible apply lm_sA); exact rfl; omega)
    | ((with_reducible apply lm_sJ); exact rfl; omega)
    | ((with_reducible apply lm_sB); (first | exact rfl | exact lm_arB (by omega) | exact lm_arM (by omega)); omega)
    | ((with_reducible apply lm_wA); exact rfl; omega)
    | ((with_reducible apply lm_wJ); exact rfl; omega)
    | ((with_reducible apply lm_wB); (first | exact rfl | exact lm_arB (by omega) | exact lm_arM (by omega)); omega)
    | ((with_reducible apply lm_sAl); (first | exact rfl | exact lm_arB (by omega) | exact lm_arM (by omega)); omega)
    | ((with_reducible apply lm_iW); decide)
    | ((with_reducible apply lm_iTd); exact rfl)
    | ((with_reducible apply lm_iFd); exact rfl)
    | ((with_reducible apply lm_sSt); exact rfl; exact rfl; exact rfl)
    | ((with_reducible apply lm_sIz); exact rfl)
    | ((with_reducible apply lm_sPz); exact rfl; exact rfl; decide))
    refine lm_e107_81 ?_
    unfold lm_q107_81
    refine lm_e107_108 ?_
    unfold lm_q107_108
    repeat (first
    | ((with_reducible apply lm_sI); exact rfl)
    | ((with_reducible apply lm_sR); exact rfl)
    | ((with_reducible apply lm_sS); exact rfl; exact rfl)
    | ((with_reducible apply lm_sL); exact rfl)
    | ((with_reducible apply lm_sP); exact rfl; exact rfl)
    | ((with_reducible apply lm_sPL); exact rfl; exact rfl)
    | ((with_reducible apply lm_sAA); exact rfl; first | exact rfl | exact lm_roO (by omega) | exact lm_roM (by omega))
    | ((with_reducible apply lm_sI); exact lm_fpL (by omega))
    | ((with_reducible apply lm_sR); exact lm_fpB (by omega))
    | ((with_reducible apply lm_sP); exact lm_fpL (by omega); exact rfl)
    | ((with_reducible apply lm_sS); exact lm_ocO (by omega); exact rfl)
    | ((with_reducible apply lm_sA); exact rfl; omega)
    | ((with_reducible apply lm_sJ); exact rfl; omega)
    | ((with_reducible apply lm_sB); (first | exact rfl | exact lm_arB (by omega) | exact lm_arM (by omega)); omega)
    | ((with_reducible apply lm_wA); exact rfl; omega)
    | ((with_reducible apply lm_wJ); exact rfl; omega)
    | ((with_reducible apply lm_wB); (first | exact rfl | exact lm_arB (by omega) | exact lm_arM (by omega)); omega)
    | ((with_reducible apply lm_sAl); (first | exact rfl | exact lm_arB (by omega) | exact lm_arM (by omega)); omega)
    | ((with_reducible apply lm_iW); decide)
    | ((with_reducible apply lm_iTd); exact rfl)
    | ((with_reducible apply lm_iFd); exact rfl)
    | ((with_reducible apply lm_sSt); exact rfl; exact rfl; exact rfl)
    | ((with_reducible apply lm_sIz); exact rfl)
    | ((with_reducible apply lm_sPz); exact rfl; exact rfl; decide))
    refine lm_e107_158 ?_
    unfold lm_q107_158
    repeat (first
    | ((with_reducible apply lm_sI); exact rfl)
    | ((with_reducible apply lm_sR); exact rfl)
    | ((with_reducible apply lm_sS); exact rfl; exact rfl)
    | ((with_reducible apply lm_sL); exact rfl)
    | ((with_reducible apply lm_sP); exact rfl; exact rfl)
    | ((with_reducible apply lm_sPL); exact rfl; exact rfl)
    | ((with_reducible apply lm_sAA); exact rfl; first | exact rfl | exact lm_roO (by omega) | exact lm_roM (by omega))
    | ((with_reducible apply lm_sI); exact lm_fpL (by omega))
    | ((with_reducible apply lm_sR); exact lm_fpB (by omega))
    | ((with_reducible apply lm_sP); exact lm_fpL (by omega); exact rfl)
    | ((with_reducible apply lm_sS); exact lm_ocO (by omega); exact rfl)
    | ((with_reducible apply lm_sA); exact rfl; omega)
    | ((with_reducible apply lm_sJ); exact rfl; omega)
    | ((with_reducible apply lm_sB); (first | exact rfl | exact lm_arB (by omega) | exact lm_arM (by omega)); omega)
    | ((with_reducible apply lm_wA); exact rfl; omega)
    | ((with_reducible apply lm_wJ); exact rfl; omega)
    | ((with_reducible apply lm_wB); (first | exact rfl | exact lm_arB (by omega) | exact lm_arM (by omega)); omega)
    | ((with_reducible apply lm_sAl); (first | exact rfl | exact lm_arB (by omega) | exact lm_arM (by omega)); omega)
    | ((with_reducible apply lm_iW); decide)
    | ((with_reducible apply lm_iTd); exact rfl)
    | ((with_reducible apply lm_iFd); exact rfl)
    | ((with_reducible apply lm_sSt); exact rfl; exact rfl; exact rfl)
    | ((with_reducible apply lm_sIz); exact rfl)
    | ((with_reducible apply lm_sPz); exact rfl; exact rfl; decide))
    exact e
  | 1, _ =>
    obtain ⟨m', e, f⟩ := lm_u107e (sc := sc) (d := d) (m := m) (n := n) (x := x) (s := s) (N := 16) (H := 66) (D := 22) (A := 6) (K := 33) (by decide) hs (by decide)
    refine ⟨m', hd _ ?_, f⟩
    repeat (first
    | ((with_reducible apply lm_sI); exact rfl)
    | ((with_reducible apply lm_sR); exact rfl)
    | ((with_reducible apply lm_sS); exact rfl; exact rfl)
    | ((with_reducible apply lm_sL); exact rfl)
    | ((with_reducible apply lm_sP); exact rfl; exact rfl)
    | ((with_reducible apply lm_sPL); exact rfl; exact rfl)
    | ((with_reducible apply lm_sAA); exact rfl; first | exact rfl | exact lm_roO (by omega) | exact lm_roM (by omega))
    | ((with_reducible apply lm_sI); exact lm_fpL (by omega))
    | ((with_reducible apply lm_sR); exact lm_fpB (by omega))
    | ((with_reducible apply lm_sP); exact lm_fpL (by omega); exact rfl)
    | ((with_reducible apply lm_sS); exact lm_ocO (by omega); exact rfl)
    | ((with_reducible apply lm_sA); exact rfl; omega)
    | ((with_reducible apply lm_sJ); exact rfl; omega)
    | ((with_reducible apply lm_sB); (first | exact rfl | exact lm_arB (by omega) | exact lm_arM (by omega)); omega)
    | ((with_reducible apply lm_wA); exact rfl; omega)
    | ((with_reducible apply lm_wJ); exact rfl; omega)
    | ((with_reducible apply lm_wB); (first | exact rfl | exact lm_arB (by omega) | exact lm_arM (by omega)); omega)
    | ((with_reducible apply lm_sAl); (first | exact rfl | exact lm_arB (by omega) | exact lm_arM (by omega)); omega)
    | ((with_reducible apply lm_iW); decide)
    | ((with_reducible apply lm_iTd); exact rfl)
    | ((with_reducible apply lm_iFd); exact rfl)
    | ((with_reducible apply lm_sSt); exact rfl; exact rfl; exact rfl)
    | ((with_reducible apply lm_sIz); exact rfl)
    | ((with_reducible apply lm_sPz); exact rfl; exact rfl; decide))
    refine lm_e107_28 ?_
    unfold lm_q107_28
    repeat (first
    | ((with_reducible apply lm_sI); exact rfl)
    | ((with_reducible apply lm_sR); exact rfl)
    | ((with_reducible apply lm_sS); exact rfl; exact rfl)
    | ((with_reducible apply lm_sL); exact rfl)
    | ((with_reducible apply lm_sP); exact rfl; exact rfl)
    | ((with_reducible apply lm_sPL); exact rfl; exact rfl)
    | ((with_reducible apply lm_sAA); exact rfl; first | exact rfl | exact lm_roO (by omega) | exact lm_roM (by omega))
    | ((with_reducible apply lm_sI); exact lm_fpL (by omega))
    | ((with_reducible apply lm_sR); exact lm_fpB (by omega))
    | ((with_reducible apply lm_sP); exact lm_fpL (by omega); exact rfl)
    | ((with_reducible apply lm_sS); exact lm_ocO (by omega); exact rfl)
    | ((with_reducible apply lm_sA); exact rfl; omega)
    | ((with_reducible apply lm_sJ); exact rfl; omega)
    | ((with_reducible apply lm_sB); (first | exact rfl | exact lm_arB (by omega) | exact lm_arM (by omega)); omega)
    | ((with_reducible apply lm_wA); exact rfl; omega)
    | ((with_reducible apply lm_wJ); exact rfl; omega)
    | ((with_reducible apply lm_wB); (first | exact rfl | exact lm_arB (by omega) | exact lm_arM (by omega)); omega)
    | ((with_reducible apply lm_sAl); (first | exact rfl | exact lm_arB (by omega) | exact lm_arM (by omega)); omega)
    | ((with_reducible apply lm_iW); decide)
    | ((with_reducible apply lm_iTd); exact rfl)
    | ((with_reducible apply lm_iFd); exact rfl)
    | ((with_reducible apply lm_sSt); exact rfl; exact rfl; exact rfl)
    | ((with_reducible apply lm_sIz); exact rfl)
    | ((with_reducible apply lm_sPz); exact rfl; exact rfl; decide))
    refine lm_e107_68 ?_
    unfold lm_q107_68
    repeat (first
    | ((with_reducible apply lm_sI); exact rfl)
    | ((with_reducible apply lm_sR); exact rfl)
    | ((with_reducible apply lm_sS); exact rfl; exact rfl)
    | ((with_reducible apply lm_sL); exact rfl)
    | ((with_reducible apply lm_sP); exact rfl; exact rfl)
    | ((with_reducible apply lm_sPL); exact rfl; exact rfl)
    | ((with_reducible apply lm_sAA); exact rfl; first | exact rfl | exact lm_roO (by omega) | exact lm_roM (by omega))
    | ((with_reducible apply lm_sI); exact lm_fpL (by omega))
    | ((with_reducible apply lm_sR); exact lm_fpB (by omega))
    | ((with_reducible apply lm_sP); exact lm_fpL (by omega); exact rfl)
    | ((with_reducible apply lm_sS); exact lm_ocO (by omega); exact rfl)
    | ((with_reducible apply lm_sA); exact rfl; omega)
    | ((with_reducible apply lm_sJ); exact rfl; omega)
    | ((with_reducible apply lm_sB); (first | exact rfl | exact lm_arB (by omega) | exact lm_arM (by omega)); omega)
    | ((with_reducible apply lm_wA); exact rfl; omega)
    | ((with_reducible apply lm_wJ); exact rfl; omega)
    | ((with_reducible apply lm_wB); (first | exact rfl | exact lm_arB (by omega) | exact lm_arM (by omega)); omega)
    | ((with_reducible apply lm_sAl); (first | exact rfl | exact lm_arB (by omega) | exact lm_arM (by omega)); omega)
    | ((with_reducible apply lm_iW); decide)
    | ((with_reducible apply lm_iTd); exact rfl)
    | ((with_reducible apply lm_iFd); exact rfl)
    | ((with_reducible apply lm_sSt); exact rfl; exact rfl; exact rfl)
    | ((with_reducible apply lm_sIz); exact rfl)
    | ((with_reducible apply lm_sPz); exact rfl; exact rfl; decide))
    refine lm_e107_108 ?_
    unfold lm_q107_108
    repeat (first
    | ((with_reducible apply lm_sI); exact rfl)
    | ((with_reducible apply lm_sR); exact rfl)
    | ((with_reducible apply lm_sS); exact rfl; exact rfl)
    | ((with_reducible apply lm_sL); exact rfl)
    | ((with_reducible apply lm_sP); exact rfl; exact rfl)
    | ((with_reducible apply lm_sPL); exact rfl; exact rfl)
    | ((with_reducible apply lm_sAA); exact rfl; first | exact rfl | exact lm_roO (by omega) | exact lm_roM (by omega))
    | ((with_reducible apply lm_sI); exact lm_fpL (by omega))
    | ((with_reducible apply lm_sR); exact lm_fpB (by omega))
    | ((with_reducible apply lm_sP); exact lm_fpL (by omega); exact rfl)
    | ((with_reducible apply lm_sS); exact lm_ocO (by omega); exact rfl)
    | ((with_reducible apply lm_sA); exact rfl; omega)
    | ((with_reducible apply lm_sJ); exact rfl; omega)
    | ((with_reducible apply lm_sB); (first | exact rfl | exact lm_arB (by omega) | exact lm_arM (by omega)); omega)
    | ((with_reducible apply lm_wA); exact rfl; omega)
    | ((with_reducible apply lm_wJ); exact rfl; omega)
    | ((with_reducible apply lm_wB); (first | exact rfl | exact lm_arB (by omega) | exact lm_arM (by omega)); omega)
    | ((with_reducible apply lm_sAl); (first | exact rfl | exact lm_arB (by omega) | exact lm_arM (by omega)); omega)
    | ((with_reducible apply lm_iW); decide)
    | ((with_reducible apply lm_iTd); exact rfl)
    | ((with_reducible apply lm_iFd); exact rfl)
    | ((with_reducible apply lm_sSt); exact rfl; exact rfl; exact rfl)
    | ((with_reducible apply lm_sIz); exact rfl)
    | ((with_reducible apply lm_sPz); exact rfl; exact rfl; decide))
    refine lm_e107_158 ?_
    unfold lm_q107_158
    repeat (first
    | ((with_reducible apply lm_sI); exact rfl)
    | ((with_reducible apply lm_sR); exact rfl)
    | ((with_reducible apply lm_sS); exact rfl; exact rfl)
    | ((with_reducible apply lm_sL); exact rfl)
    | ((with_reducible apply lm_sP); exact rfl; exact rfl)
    | ((with_reducible apply lm_sPL); exact rfl; exact rfl)
    | ((with_reducible apply lm_sAA); exact rfl; first | exact rfl | exact lm_roO (by omega) | exact lm_roM (by omega))
    | ((with_reducible apply lm_sI); exact lm_fpL (by omega))
    | ((with_reducible apply lm_sR); exact lm_fpB (by omega))
    | ((with_reducible apply lm_sP); exact lm_fpL (by omega); exact rfl)
    | ((with_reducible apply lm_sS); exact lm_ocO (by omega); exact rfl)
    | ((with_reducible apply lm_sA); exact rfl; omega)
    | ((with_reducible apply lm_sJ); exact rfl; omega)
    | ((with_reducible apply lm_sB); (first | exact rfl | exact lm_arB (by omega) | exact lm_arM (by omega)); omega)
    | ((with_reducible apply lm_wA); exact rfl; omega)
    | ((with_reducible apply lm_wJ); exact rfl; omega)
    | ((with_reducible apply lm_wB); (first | exact rfl | exact lm_arB (by omega) | exact lm_arM (by omega)); omega)
    | ((with_reducible apply lm_sAl); (first | exact rfl | exact lm_arB (by omega) | exact lm_arM (by omega)); omega)
    | ((with_reducible apply lm_iW); decide)
    | ((with_reducible apply lm_iTd); exact rfl)
    | ((with_reducible apply lm_iFd); exact rfl)
    | ((with_reducible apply lm_sSt); exact rfl; exact rfl; exact rfl)
    | ((with_reducible apply lm_sIz); exact rfl)
    | ((with_reducible apply lm_sPz); exact rfl; exact rfl; decide))
    refine lm_e107_181 ?_
    unfold lm_q107_181
    exact e
  | 2, _ =>
    obtain ⟨m', e, f⟩ := lm_u107e (sc := sc) (d := d) (m := m) (n := n) (x := x) (s := s) (N := 24) (H := 63) (D := 7) (A := 14) (K := 17) (by decide) hs (by decide)
    refine ⟨m', hd _ ?_, f⟩
    repeat (first
    | ((with_reducible apply lm_sI); exact rfl)
    | ((with_reducible apply lm_sR); exact rfl)
    | ((with_reducible apply lm_sS); exact rfl; exact rfl)
    | ((with_reducible apply lm_sL); exact rfl)
    | ((with_reducible apply lm_sP); exact rfl; exact rfl)
    | ((with_reducible apply lm_sPL); exact rfl; exact rfl)
    | ((with_reducible apply lm_sAA); exact rfl; first | exact rfl | exact lm_roO (by omega) | exact lm_roM (by omega))
    | ((with_reducible apply lm_sI); exact lm_fpL (by omega))
    | ((with_reducible apply lm_sR); exact lm_fpB (by omega))
    | ((with_reducible apply lm_sP); exact lm_fpL (by omega); exact rfl)
    | ((with_reducible apply lm_sS); exact lm_ocO (by omega); exact rfl)
    | ((with_reducible apply lm_sA); exact rfl; omega)
    | ((with_reducible apply lm_sJ); exact rfl; omega)
    | ((with_reducible apply lm_sB); (first | exact rfl | exact lm_arB (by omega) | exact lm_arM (by omega)); omega)
    | ((with_reducible apply lm_wA); exact rfl; omega)
    | ((with_reducible apply lm_wJ); exact rfl; omega)
    | ((with_reducible apply lm_wB); (first | exact rfl | exact lm_arB (by omega) | exact lm_arM (by omega)); omega)
    | ((with_reducible apply lm_sAl); (first | exact rfl | exact lm_arB (by omega) | exact lm_arM (by omega)); omega)
    | ((with_reducible apply lm_iW); decide)
    | ((with_reducible apply lm_iTd); exact rfl)
    | ((with_reducible apply lm_iFd); exact rfl)
    | ((with_reducible apply lm_sSt); exact rfl; exact rfl; exact rfl)
    | ((with_reducible apply lm_sIz); exact rfl)
    | ((with_reducible apply lm_sPz); exact rfl; exact rfl; decide))
    refine lm_e107_28 ?_
    unfold lm_q107_28
    repeat (first
    | ((with_reducible apply lm_sI); exact rfl)
    | ((with_reducible apply lm_sR); exact rfl)
    | ((with_reducible apply lm_sS); exact rfl; exact rfl)
    | ((with_reducible apply lm_sL); exact rfl)
    | ((with_reducible apply lm_sP); exact rfl; exact rfl)
    | ((with_reducible apply lm_sPL); exact rfl; exact rfl)
    | ((with_reducible apply lm_sAA); exact rfl; first | exact rfl | exact lm_roO (by omega) | exact lm_roM (by omega))
    | ((with_reducible apply lm_sI); exact lm_fpL (by omega))
    | ((with_reducible apply lm_sR); exact lm_fpB (by omega))
    | ((with_reducible apply lm_sP); exact lm_fpL (by omega); exact rfl)
    | ((with_reducible apply lm_sS); exact lm_ocO (by omega); exact rfl)
    | ((with_reducible apply lm_sA); exact rfl; omega)
    | ((with_reducible apply lm_sJ); exact rfl; omega)
    | ((with_reducible apply lm_sB); (first | exact rfl | exact lm_arB (by omega) | exact lm_arM (by omega)); omega)
    | ((with_reducible apply lm_wA); exact rfl; omega)
    | ((with_reducible apply lm_wJ); exact rfl; omega)
    | ((with_reducible apply lm_wB); (first | exact rfl | exact lm_arB (by omega) | exact lm_arM (by omega)); omega)
    | ((with_reducible apply lm_sAl); (first | exact rfl | exact lm_arB (by omega) | exact lm_arM (by omega)); omega)
    | ((with_reducible apply lm_iW); decide)
    | ((with_reducible apply lm_iTd); exact rfl)
    | ((with_reducible apply lm_iFd); exact rfl)
    | ((with_reducible apply lm_sSt); exact rfl; exact rfl; exact rfl)
    | ((with_reducible apply lm_sIz); exact rfl)
    | ((with_reducible apply lm_sPz); exact rfl; exact rfl; decide))
    refine lm_e107_41 ?_
    unfold lm_q107_41
    refine lm_e107_68 ?_
    unfold lm_q107_68
    repeat (first
    | ((with_reducible apply lm_sI); exact rfl)
    | ((with_reducible apply lm_sR); exact rfl)
    | ((with_reducible apply lm_sS); exact rfl; exact rfl)
    | ((with_reducible apply lm_sL); exact rfl)
    | ((with_reducible apply lm_sP); exact rfl; exact rfl)
    | ((with_reducible apply lm_sPL); exact rfl; exact rfl)
    | ((with_reducible apply lm_sAA); exact rfl; first | exact rfl | exact lm_roO (by omega) | exact lm_roM (by omega))
    | ((with_reducible apply lm_sI); exact lm_fpL (by omega))
    | ((with_reducible apply lm_sR); exact lm_fpB (by omega))
    | ((with_reducible apply lm_sP); exact lm_fpL (by omega); exact rfl)
    | ((with_reducible apply lm_sS); exact lm_ocO (by omega); exact rfl)
    | ((with_reducible apply lm_sA); exact rfl; omega)
    | ((with_reducible apply lm_sJ); exact rfl; omega)
    | ((with_reducible apply lm_sB); (first | exact rfl | exact lm_arB (by omega) | exact lm_arM (by omega)); omega)
    | ((with_reducible apply lm_wA); exact rfl; omega)
    | ((with_reducible apply lm_wJ); exact rfl; omega)
    | ((with_reducible apply lm_wB); (first | exact rfl | exact lm_arB (by omega) | exact lm_arM (by omega)); omega)
    | ((with_reducible apply lm_sAl); (first | exact rfl | exact lm_arB (by omega) | exact lm_arM (by omega)); omega)
    | ((with_reducible apply lm_iW); decide)
    | ((with_reducible apply lm_iTd); exact rfl)
    | ((with_reducible apply lm_iFd); exact rfl)
    | ((with_reducible apply lm_sSt); exact rfl; exact rfl; exact rfl)
    | ((with_reducible apply lm_sIz); exact rfl)
    | ((with_reducible apply lm_sPz); exact rfl; exact rfl; decide))
    refine lm_e107_81 ?_
    unfold lm_q107_81
    refine lm_e107_108 ?_
    unfold lm_q107_108
    repeat (first
    | ((with_reducible apply lm_sI); exact rfl)
    | ((with_reducible apply lm_sR); exact rfl)
    | ((with_reducible apply lm_sS); exact rfl; exact rfl)
    | ((with_reducible apply lm_sL); exact rfl)
    | ((with_reducible apply lm_sP); exact rfl; exact rfl)
    | ((with_reducible apply lm_sPL); exact rfl; exact rfl)
    | ((with_reducible apply lm_sAA); exact rfl; first | exact rfl | exact lm_roO (by omega) | exact lm_roM (by omega))
    | ((with_reducible apply lm_sI); exact lm_fpL (by omega))
    | ((with_reducible apply lm_sR); exact lm_fpB (by omega))
    | ((with_reducible apply lm_sP); exact lm_fpL (by omega); exact rfl)
    | ((with_reducible apply lm_sS); exact lm_ocO (by omega); exact rfl)
    | ((with_reducible apply lm_sA); exact rfl; omega)
    | ((with_reducible apply lm_sJ); exact rfl; omega)
    | ((with_reducible apply lm_sB); (first | exact rfl | exact lm_arB (by omega) | exact lm_arM (by omega)); omega)
    | ((with_reducible apply lm_wA); exact rfl; omega)
    | ((with_reducible apply lm_wJ); exact rfl; omega)
    | ((with_reducible apply lm_wB); (first | exact rfl | exact lm_arB (by omega) | exact lm_arM (by omega)); omega)
    | ((with_reducible apply lm_sAl); (first | exact rfl | exact lm_arB (by omega) | exact lm_arM (by omega)); omega)
    | ((with_reducible apply lm_iW); decide)
    | ((with_reducible apply lm_iTd); exact rfl)
    | ((with_reducible apply lm_iFd); exact rfl)
    | ((with_reducible apply lm_sSt); exact rfl; exact rfl; exact rfl)
    | ((with_reducible apply lm_sIz); exact rfl)
    | ((with_reducible apply lm_sPz); exact rfl; exact rfl; decide))
    refine lm_e107_141 ?_
    unfold lm_q107_141
    refine lm_e107_158 ?_
    unfold lm_q107_158
    repeat (first
    | ((with_reducible apply lm_sI); exact rfl)
    | ((with_reducible apply lm_sR); exact rfl)
    | ((with_reducible apply lm_sS); exact rfl; exact rfl)
    | ((with_reducible apply lm_sL); exact rfl)
    | ((with_reducible apply lm_sP); exact rfl; exact rfl)
    | ((with_reducible apply lm_sPL); exact rfl; exact rfl)
    | ((with_reducible apply lm_sAA); exact rfl; first | exact rfl | exact lm_roO (by omega) | exact lm_roM (by omega))
    | ((with_reducible apply lm_sI); exact lm_fpL (by omega))
    | ((with_reducible apply lm_sR); exact lm_fpB (by omega))
    | ((with_reducible apply lm_sP); exact lm_fpL (by omega); exact rfl)
    | ((with_reducible apply lm_sS); exact lm_ocO (by omega); exact rfl)
    | ((with_reducible apply lm_sA); exact rfl; omega)
    | ((with_reducible apply lm_sJ); exact rfl; omega)
    | ((with_reducible apply lm_sB); (first | exact rfl | exact lm_arB (by omega) | exact lm_arM (by omega)); omega)
    | ((with_reducible apply lm_wA); exact rfl; omega)
    | ((with_reducible apply lm_wJ); exact rfl; omega)
    | ((with_reducible apply lm_wB); (first | exact rfl | exact lm_arB (by omega) | exact lm_arM (by omega)); omega)
    | ((with_reducible apply lm_sAl); (first | exact rfl | exact lm_arB (by omega) | exact lm_arM (by omega)); omega)
    | ((with_reducible apply lm_iW); decide)
    | ((with_reducible apply lm_iTd); exact rfl)
    | ((with_reducible apply lm_iFd); exact rfl)
    | ((with_reducible apply lm_sSt); exact rfl; exact rfl; exact rfl)
    | ((with_reducible apply lm_sIz); exact rfl)
    | ((with_reducible apply lm_sPz); exact rfl; exact rfl; decide))
    exact e
  | 3, _ =>
    obtain ⟨m', e, f⟩ := lm_u107e (sc := sc) (d := d) (m := m) (n := n) (x := x) (s := s) (N := 24) (H := 66) (D := 22) (A := 8) (K := 33) (by decide) hs (by decide)
    refine ⟨m', hd _ ?_, f⟩
    repeat (first
    | ((with_reducible apply lm_sI); exact rfl)
    | ((with_reducible apply lm_sR); exact rfl)
    | ((with_reducible apply lm_sS); exact rfl; exact rfl)
    | ((with_reducible apply lm_sL); exact rfl)
    | ((with_reducible apply lm_sP); exact rfl; exact rfl)
    | ((with_reducible apply lm_sPL); exact rfl; exact rfl)
    | ((with_reducible apply lm_sAA); exact rfl; first | exact rfl | exact lm_roO (by omega) | exact lm_roM (by omega))
    | ((with_reducible apply lm_sI); exact lm_fpL (by omega))
    | ((with_reducible apply lm_sR); exact lm_fpB (by omega))
    | ((with_reducible apply lm_sP); exact lm_fpL (by omega); exact rfl)
    | ((with_reducible apply lm_sS); exact lm_ocO (by omega); exact rfl)
    | ((with_reducible apply lm_sA); exact rfl; omega)
    | ((with_reducible apply lm_sJ); exact rfl; omega)
    | ((with_reducible apply lm_sB); (first | exact rfl | exact lm_arB (by omega) | exact lm_arM (by omega)); omega)
    | ((with_reducible apply lm_wA); exact rfl; omega)
    | ((with_reducible apply lm_wJ); exact rfl; omega)
    | ((with_reducible apply lm_wB); (first | exact rfl | exact lm_arB (by omega) | exact lm_arM (by omega)); omega)
    | ((with_reducible apply lm_sAl); (first | exact rfl | exact lm_arB (by omega) | exact lm_arM (by omega)); omega)
    | ((with_reducible apply lm_iW); decide)
    | ((with_reducible apply lm_iTd); exact rfl)
    | ((with_reducible apply lm_iFd); exact rfl)
    | ((with_reducible apply lm_sSt); exact rfl; exact rfl; exact rfl)
    | ((with_reducible apply lm_sIz); exact rfl)
    | ((with_reducible apply lm_sPz); exact rfl; exact rfl; decide))
    refine lm_e107_28 ?_
    unfold lm_q107_28
    repeat (first
    | ((with_reducible apply lm_sI); exact rfl)
    | ((with_reducible apply lm_sR); exact rfl)
    | ((with_reducible apply lm_sS); exact rfl; exact rfl)
    | ((with_reducible apply lm_sL); exact rfl)
    | ((with_reducible apply lm_sP); exact rfl; exact rfl)
    | ((with_reducible apply lm_sPL); exact rfl; exact rfl)
    | ((with_reducible apply lm_sAA); exact rfl; first | exact rfl | exact lm_roO (by omega) | exact lm_roM (by omega))
    | ((with_reducible apply lm_sI); exact lm_fpL (by omega))
    | ((with_reducible apply lm_sR); exact lm_fpB (by omega))
    | ((with_reducible apply lm_sP); exact lm_fpL (by omega); exact rfl)
    | ((with_reducible apply lm_sS); exact lm_ocO (by omega); exact rfl)
    | ((with_reducible apply lm_sA); exact rfl; omega)
    | ((with_reducible apply lm_sJ); exact rfl; omega)
    | ((with_reducible apply lm_sB); (first | exact rfl | exact lm_arB (by omega) | exact lm_arM (by omega)); omega)
    | ((with_reducible apply lm_wA); exact rfl; omega)
    | ((with_reducible apply lm_wJ); exact rfl; omega)
    | ((with_reducible apply lm_wB); (first | exact rfl | exact lm_arB (by omega) | exact lm_arM (by omega)); omega)
    | ((with_reducible apply lm_sAl); (first | exact rfl | exact lm_arB (by omega) | exact lm_arM (by omega)); omega)
    | ((with_reducible apply lm_iW); decide)
    | ((with_reducible apply lm_iTd); exact rfl)
    | ((with_reducible apply lm_iFd); exact rfl)
    | ((with_reducible apply lm_sSt); exact rfl; exact rfl; exact rfl)
    | ((with_reducible apply lm_sIz); exact rfl)
    | ((with_reducible apply lm_sPz); exact rfl; exact rfl; decide))
    refine lm_e107_68 ?_
    unfold lm_q107_68
    repeat (first
    | ((with_reducible apply lm_sI); exact rfl)
    | ((with_reducible apply lm_sR); exact rfl)
    | ((with_reducible apply lm_sS); exact rfl; exact rfl)
    | ((with_reducible apply lm_sL); exact rfl)
    | ((with_reducible apply lm_sP); exact rfl; exact rfl)
    | ((with_reducible apply lm_sPL); exact rfl; exact rfl)
    | ((with_reducible apply lm_sAA); exact rfl; first | exact rfl | exact lm_roO (by omega) | exact lm_roM (by omega))
    | ((with_reducible apply lm_sI); exact lm_fpL (by omega))
    | ((with_reducible apply lm_sR); exact lm_fpB (by omega))
    | ((with_reducible apply lm_sP); exact lm_fpL (by omega); exact rfl)
    | ((with_reducible apply lm_sS); exact lm_ocO (by omega); exact rfl)
    | ((with_reducible apply lm_sA); exact rfl; omega)
    | ((with_reducible apply lm_sJ); exact rfl; omega)
    | ((with_reducible apply lm_sB); (first | exact rfl | exact lm_arB (by omega) | exact lm_arM (by omega)); omega)
    | ((with_reducible apply lm_wA); exact rfl; omega)
    | ((with_reducible apply lm_wJ); exact rfl; omega)
    | ((with_reducible apply lm_wB); (first | exact rfl | exact lm_arB (by omega) | exact lm_arM (by omega)); omega)
    | ((with_reducible apply lm_sAl); (first | exact rfl | exact lm_arB (by omega) | exact lm_arM (by omega)); omega)
    | ((with_reducible apply lm_iW); decide)
    | ((with_reducible apply lm_iTd); exact rfl)
    | ((with_reducible apply lm_iFd); exact rfl)
    | ((with_reducible apply lm_sSt); exact rfl; exact rfl; exact rfl)
    | ((with_reducible apply lm_sIz); exact rfl)
    | ((with_reducible apply lm_sPz); exact rfl; exact rfl; decide))
    refine lm_e107_108 ?_
    unfold lm_q107_108
    repeat (first
    | ((with_reducible apply lm_sI); exact rfl)
    | ((with_reducible apply lm_sR); exact rfl)
    | ((with_reducible apply lm_sS); exact rfl; exact rfl)
    | ((with_reducible apply lm_sL); exact rfl)
    | ((with_reducible apply lm_sP); exact rfl; exact rfl)
    | ((with_reducible apply lm_sPL); exact rfl; exact rfl)
    | ((with_reducible apply lm_sAA); exact rfl; first | exact rfl | exact lm_roO (by omega) | exact lm_roM (by omega))
    | ((with_reducible apply lm_sI); exact lm_fpL (by omega))
    | ((with_reducible apply lm_sR); exact lm_fpB (by omega))
    | ((with_reducible apply lm_sP); exact lm_fpL (by omega); exact rfl)
    | ((with_reducible apply lm_sS); exact lm_ocO (by omega); exact rfl)
    | ((with_reducible apply lm_sA); exact rfl; omega)
    | ((with_reducible apply lm_sJ); exact rfl; omega)
    | ((with_reducible apply lm_sB); (first | exact rfl | exact lm_arB (by omega) | exact lm_arM (by omega)); omega)
    | ((with_reducible apply lm_wA); exact rfl; omega)
    | ((with_reducible apply lm_wJ); exact rfl; omega)
    | ((with_reducible apply lm_wB); (first | exact rfl | exact lm_arB (by omega) | exact lm_arM (by omega)); omega)
    | ((with_reducible apply lm_sAl); (first | exact rfl | exact lm_arB (by omega) | exact lm_arM (by omega)); omega)
    | ((with_reducible apply lm_iW); decide)
    | ((with_reducible apply lm_iTd); exact rfl)
    | ((with_reducible apply lm_iFd); exact rfl)
    | ((with_reducible apply lm_sSt); exact rfl; exact rfl; exact rfl)
    | ((with_reducible apply lm_sIz); exact rfl)
    | ((with_reducible apply lm_sPz); exact rfl; exact rfl; decide))
    refine lm_e107_158 ?_
    unfold lm_q107_158
    repeat (first
    | ((with_reducible apply lm_sI); exact rfl)
    | ((with_reducible apply lm_sR); exact rfl)
    | ((with_reducible apply lm_sS); exact rfl; exact rfl)
    | ((with_reducible apply lm_sL); exact rfl)
    | ((with_reducible apply lm_sP); exact rfl; exact rfl)
    | ((with_reducible apply lm_sPL); exact rfl; exact rfl)
    | ((with_reducible apply lm_sAA); exact rfl; first | exact rfl | exact lm_roO (by omega) | exact lm_roM (by omega))
    | ((with_reducible apply lm_sI); exact lm_fpL (by omega))
    | ((with_reducible apply lm_sR); exact lm_fpB (by omega))
    | ((with_reducible apply lm_sP); exact lm_fpL (by omega); exact rfl)
    | ((with_reducible apply lm_sS); exact lm_ocO (by omega); exact rfl)
    | ((with_reducible apply lm_sA); exact rfl; omega)
    | ((with_reducible apply lm_sJ); exact rfl; omega)
    | ((with_reducible apply lm_sB); (first | exact rfl | exact lm_arB (by omega) | exact lm_arM (by omega)); omega)
    | ((with_reducible apply lm_wA); exact rfl; omega)
    | ((with_reducible apply lm_wJ); exact rfl; omega)
    | ((with_reducible apply lm_wB); (first | exact rfl | exact lm_arB (by omega) | exact lm_arM (by omega)); omega)
    | ((with_reducible apply lm_sAl); (first | exact rfl | exact lm_arB (by omega) | exact lm_arM (by omega)); omega)
    | ((with_reducible apply lm_iW); decide)
    | ((with_reducible apply lm_iTd); exact rfl)
    | ((with_reducible apply lm_iFd); exact rfl)
    | ((with_reducible apply lm_sSt); exact rfl; exact rfl; exact rfl)
    | ((with_reducible apply lm_sIz); exact rfl)
    | ((with_reducible apply lm_sPz); exact rfl; exact rfl; decide))
    refine lm_e107_181 ?_
    unfold lm_q107_181
    exact e
  | 4, _ =>
    obtain ⟨m', e, f⟩ := lm_u107e (sc := sc) (d := d) (m := m) (n := n) (x := x) (s := s) (N := 32) (H := 64) (D := 8) (A := 14) (K := 22) (by decide) hs (by decide)
    refine ⟨m', hd _ ?_, f⟩
    repeat (first
    | ((with_reducible apply lm_sI); exact rfl)
    | ((with_reducible apply lm_sR); exact rfl)
    | ((with_reducible apply lm_sS); exact rfl; exact rfl)
    | ((with_reducible apply lm_sL); exact rfl)
    | ((with_reducible apply lm_sP); exact rfl; exact rfl)
    | ((with_reducible apply lm_sPL); exact rfl; exact rfl)
    | ((with_reducible apply lm_sAA); exact rfl; first | exact rfl | exact lm_roO (by omega) | exact lm_roM (by omega))
    | ((with_reducible apply lm_sI); exact lm_fpL (by omega))
    | ((with_reducible apply lm_sR); exact lm_fpB (by omega))
    | ((with_reducible apply lm_sP); exact lm_fpL (by omega); exact rfl)
    | ((with_reducible apply lm_sS); exact lm_ocO (by omega); exact rfl)
    | ((with_reducible apply lm_sA); exact rfl; omega)
    | ((with_reducible apply lm_sJ); exact rfl; omega)
    | ((with_reducible apply lm_sB); (first | exact rfl | exact lm_arB (by omega) | exact lm_arM (by omega)); omega)
    | ((with_reducible apply lm_wA); exact rfl; omega)
    | ((with_reducible apply lm_wJ); exact rfl; omega)
    | ((with_reducible apply lm_wB); (first | exact rfl | exact lm_arB (by omega) | exact lm_arM (by omega)); omega)
    | ((with_reducible apply lm_sAl); (first | exact rfl | exact lm_arB (by omega) | exact lm_arM (by omega)); omega)
    | ((with_reducible apply lm_iW); decide)
    | ((with_reducible apply lm_iTd); exact rfl)
    | ((with_reducible apply lm_iFd); exact rfl)
    | ((with_reducible apply lm_sSt); exact rfl; exact rfl; exact rfl)
    | ((with_reducible apply lm_sIz); exact rfl)
    | ((with_reducible apply lm_sPz); exact rfl; exact rfl; decide))
    refine lm_e107_28 ?_
    unfold lm_q107_28
    repeat (first
    | ((with_reducible apply lm_sI); exact rfl)
    | ((with_reducible apply lm_sR); exact rfl)
    | ((with_reducible apply lm_sS); exact rfl; exact rfl)
    | ((with_reducible apply lm_sL); exact rfl)
    | ((with_reducible apply lm_sP); exact rfl; exact rfl)
    | ((with_reducible apply lm_sPL); exact rfl; exact rfl)
    | ((with_reducible apply lm_sAA); exact rfl; first | exact rfl | exact lm_roO (by omega) | exact lm_roM (by omega))
    | ((with_reducible apply lm_sI); exact lm_fpL (by omega))
    | ((with_reducible apply lm_sR); exact lm_fpB (by omega))
    | ((with_reducible apply lm_sP); exact lm_fpL (by omega); exact rfl)
    | ((with_reducible apply lm_sS); exact lm_ocO (by omega); exact rfl)
    | ((with_reducible apply lm_sA); exact rfl; omega)
    | ((with_reducible apply lm_sJ); exact rfl; omega)
    | ((with_reducible apply lm_sB); (first | exact rfl | exact lm_arB (by omega) | exact lm_arM (by omega)); omega)
    | ((with_reducible apply lm_wA); exact rfl; omega)
    | ((with_reducible apply lm_wJ); exact rfl; omega)
    | ((with_reducible apply lm_wB); (first | exact rfl | exact lm_arB (by omega) | exact lm_arM (by omega)); omega)
    | ((with_reducible apply lm_sAl); (first | exact rfl | exact lm_arB (by omega) | exact lm_arM (by omega)); omega)
    | ((with_reducible apply lm_iW); decide)
    | ((with_reducible apply lm_iTd); exact rfl)
    | ((with_reducible apply lm_iFd); exact rfl)
    | ((with_reducible apply lm_sSt); exact rfl; exact rfl; exact rfl)
    | ((with_reducible apply lm_sIz); exact rfl)
    | ((with_reducible apply lm_sPz); exact rfl; exact rfl; decide))
    refine lm_e107_68 ?_
    unfold lm_q107_68
    repeat (first
    | ((with_reducible apply lm_sI); exact rfl)
    | ((with_reducible apply lm_sR); exact rfl)
    | ((with_reducible apply lm_sS); exact rfl; exact rfl)
    | ((with_reducible apply lm_sL); exact rfl)
    | ((with_reducible apply lm_sP); exact rfl; exact rfl)
    | ((with_reducible apply lm_sPL); exact rfl; exact rfl)
    | ((with_reducible apply lm_sAA); exact rfl; first | exact rfl | exact lm_roO (by omega) | exact lm_roM (by omega))
    | ((with_reducible apply lm_sI); exact lm_fpL (by omega))
    | ((with_reducible apply lm_sR); exact lm_fpB (by omega))
    | ((with_reducible apply lm_sP); exact lm_fpL (by omega); exact rfl)
    | ((with_reducible apply lm_sS); exact lm_ocO (by omega); exact rfl)
    | ((with_reducible apply lm_sA); exact rfl; omega)
    | ((with_reducible apply lm_sJ); exact rfl; omega)
    | ((with_reducible apply lm_sB); (first | exact rfl | exact lm_arB (by omega) | exact lm_arM (by omega)); omega)
    | ((with_reducible apply lm_wA); exact rfl; omega)
    | ((with_reducible apply lm_wJ); exact rfl; omega)
    | ((with_reducible apply lm_wB); (first | exact rfl | exact lm_arB (by omega) | exact lm_arM (by omega)); omega)
    | ((with_reducible apply lm_sAl); (first | exact rfl | exact lm_arB (by omega) | exact lm_arM (by omega)); omega)
    | ((with_reducible apply lm_iW); decide)
    | ((with_reducible apply lm_iTd); exact rfl)
    | ((with_reducible apply lm_iFd); exact rfl)
    | ((with_reducible apply lm_sSt); exact rfl; exact rfl; exact rfl)
    | ((with_reducible apply lm_sIz); exact rfl)
    | ((with_reducible apply lm_sPz); exact rfl; exact rfl; decide))
    refine lm_e107_108 ?_
    unfold lm_q107_108
    repeat (first
    | ((with_reducible apply lm_sI); exact rfl)
    | ((with_reducible apply lm_sR); exact rfl)
    | ((with_reducible apply lm_sS); exact rfl; exact rfl)
    | ((with_reducible apply lm_sL); exact rfl)
    | ((with_reducible apply lm_sP); exact rfl; exact rfl)
    | ((with_reducible apply lm_sPL); exact rfl; exact rfl)
    | ((with_reducible apply lm_sAA); exact rfl; first | exact rfl | exact lm_roO (by omega) | exact lm_roM (by omega))
    | ((with_reducible apply lm_sI); exact lm_fpL (by omega))
    | ((with_reducible apply lm_sR); exact lm_fpB (by omega))
    | ((with_reducible apply lm_sP); exact lm_fpL (by omega); exact rfl)
    | ((with_reducible apply lm_sS); exact lm_ocO (by omega); exact rfl)
    | ((with_reducible apply lm_sA); exact rfl; omega)
    | ((with_reducible apply lm_sJ); exact rfl; omega)
    | ((with_reducible apply lm_sB); (first | exact rfl | exact lm_arB (by omega) | exact lm_arM (by omega)); omega)
    | ((with_reducible apply lm_wA); exact rfl; omega)
    | ((with_reducible apply lm_wJ); exact rfl; omega)
    | ((with_reducible apply lm_wB); (first | exact rfl | exact lm_arB (by omega) | exact lm_arM (by omega)); omega)
    | ((with_reducible apply lm_sAl); (first | exact rfl | exact lm_arB (by omega) | exact lm_arM (by omega)); omega)
    | ((with_reducible apply lm_iW); decide)
    | ((with_reducible apply lm_iTd); exact rfl)
    | ((with_reducible apply lm_iFd); exact rfl)
    | ((with_reducible apply lm_sSt); exact rfl; exact rfl; exact rfl)
    | ((with_reducible apply lm_sIz); exact rfl)
    | ((with_reducible apply lm_sPz); exact rfl; exact rfl; decide))
    refine lm_e107_141 ?_
    unfold lm_q107_141
    refine lm_e107_158 ?_
    unfold lm_q107_158
    repeat (first
    | ((with_reducible apply lm_sI); exact rfl)
    | ((with_reducible apply lm_sR); exact rfl)
    | ((with_reducible apply lm_sS); exact rfl; exact rfl)
    | ((with_reducible apply lm_sL); exact rfl)
    | ((with_reducible apply lm_sP); exact rfl; exact rfl)
    | ((with_reducible apply lm_sPL); exact rfl; exact rfl)
    | ((with_reducible apply lm_sAA); exact rfl; first | exact rfl | exact lm_roO (by omega) | exact lm_roM (by omega))
    | ((with_reducible apply lm_sI); exact lm_fpL (by omega))
    | ((with_reducible apply lm_sR); exact lm_fpB (by omega))
    | ((with_reducible apply lm_sP); exact lm_fpL (by omega); exact rfl)
    | ((with_reducible apply lm_sS); exact lm_ocO (by omega); exact rfl)
    | ((with_reducible apply lm_sA); exact rfl; omega)
    | ((with_reducible apply lm_sJ); exact rfl; omega)
    | ((with_reducible apply lm_sB); (first | exact rfl | exact lm_arB (by omega) | exact lm_arM (by omega)); omega)
    | ((with_reducible apply lm_wA); exact rfl; omega)
    | ((with_reducible apply lm_wJ); exact rfl; omega)
    | ((with_reducible apply lm_wB); (first | exact rfl | exact lm_arB (by omega) | exact lm_arM (by omega)); omega)
    | ((with_reducible apply lm_sAl); (first | exact rfl | exact lm_arB (by omega) | exact lm_arM (by omega)); omega)
    | ((with_reducible apply lm_iW); decide)
    | ((with_reducible apply lm_iTd); exact rfl)
    | ((with_reducible apply lm_iFd); exact rfl)
    | ((with_reducible apply lm_sSt); exact rfl; exact rfl; exact rfl)
    | ((with_reducible apply lm_sIz); exact rfl)
    | ((with_reducible apply lm_sPz); exact rfl; exact rfl; decide))
    exact e
  | 5, _ =>
    obtain ⟨m', e, f⟩ := lm_u107e (sc := sc) (d := d) (m := m) (n := n) (x := x) (s := s) (N := 32) (H := 68) (D := 17) (A := 9) (K := 35) (by decide) hs (by decide)
    refine ⟨m', hd _ ?_, f⟩
    repeat (first
    | ((with_reducible apply lm_sI); exact rfl)
    | ((with_reducible apply lm_sR); exact rfl)
    | ((with_reducible apply lm_sS); exact rfl; exact rfl)
    | ((with_reducible apply lm_sL); exact rfl)
    | ((with_reducible apply lm_sP); exact rfl; exact rfl)
    | ((with_reducible apply lm_sPL); exact rfl; exact rfl)
    | ((with_reducible apply lm_sAA); exact rfl; first | exact rfl | exact lm_roO (by omega) | exact lm_roM (by omega))
    | ((with_reducible apply lm_sI); exact lm_fpL (by omega))
    | ((with_reducible apply lm_sR); exact lm_fpB (by omega))
    | ((with_reducible apply lm_sP); exact lm_fpL (by omega); exact rfl)
    | ((with_reducible apply lm_sS); exact lm_ocO (by omega); exact rfl)
    | ((with_reducible apply lm_sA); exact rfl; omega)
    | ((with_reducible apply lm_sJ); exact rfl; omega)
    | ((with_reducible apply lm_sB); (first | exact rfl | exact lm_arB (by omega) | exact lm_arM (by omega)); omega)
    | ((with_reducible apply lm_wA); exact rfl; omega)
    | ((with_reducible apply lm_wJ); exact rfl; omega)
    | ((with_reducible apply lm_wB); (first | exact rfl | exact lm_arB (by omega) | exact lm_arM (by omega)); omega)
    | ((with_reducible apply lm_sAl); (first | exact rfl | exact lm_arB (by omega) | exact lm_arM (by omega)); omega)
    | ((with_reducible apply lm_iW); decide)
    | ((with_reducible apply lm_iTd); exact rfl)
    | ((with_reducible apply lm_iFd); exact rfl)
    | ((with_reducible apply lm_sSt); exact rfl; exact rfl; exact rfl)
    | ((with_reducible apply lm_sIz); exact rfl)
    | ((with_reducible apply lm_sPz); exact rfl; exact rfl; decide))
    refine lm_e107_28 ?_
    unfold lm_q107_28
    repeat (first
    | ((with_reducible apply lm_sI); exact rfl)
    | ((with_reducible apply lm_sR); exact rfl)
    | ((with_reducible apply lm_sS); exact rfl; exact rfl)
    | ((with_reducible apply lm_sL); exact rfl)
    | ((with_reducible apply lm_sP); exact rfl; exact rfl)
    | ((with_reducible apply lm_sPL); exact rfl; exact rfl)
    | ((with_reducible apply lm_sAA); exact rfl; first | exact rfl | exact lm_roO (by omega) | exact lm_roM (by omega))
    | ((with_reducible apply lm_sI); exact lm_fpL (by omega))
    | ((with_reducible apply lm_sR); exact lm_fpB (by omega))
    | ((with_reducible apply lm_sP); exact lm_fpL (by omega); exact rfl)
    | ((with_reducible apply lm_sS); exact lm_ocO (by omega); exact rfl)
    | ((with_reducible apply lm_sA); exact rfl; omega)
    | ((with_reducible apply lm_sJ); exact rfl; omega)
    | ((with_reducible apply lm_sB); (first | exact rfl | exact lm_arB (by omega) | exact lm_arM (by omega)); omega)
    | ((with_reducible apply lm_wA); exact rfl; omega)
    | ((with_reducible apply lm_wJ); exact rfl; omega)
    | ((with_reducible apply lm_wB); (first | exact rfl | exact lm_arB (by omega) | exact lm_arM (by omega)); omega)
    | ((with_reducible apply lm_sAl); (first | exact rfl | exact lm_arB (by omega) | exact lm_arM (by omega)); omega)
    | ((with_reducible apply lm_iW); decide)
    | ((with_reducible apply lm_iTd); exact rfl)
    | ((with_reducible apply lm_iFd); exact rfl)
    | ((with_reducible apply lm_sSt); exact rfl; exact rfl; exact rfl)
    | ((with_reducible apply lm_sIz); exact rfl)
    | ((with_reducible apply lm_sPz); exact rfl; exact rfl; decide))
    refine lm_e107_68 ?_
    unfold lm_q107_68
    repeat (first
    | ((with_reducible apply lm_sI); exact rfl)
    | ((with_reducible apply lm_sR); exact rfl)
    | ((with_reducible apply lm_sS); exact rfl; exact rfl)
    | ((with_reducible apply lm_sL); exact rfl)
    | ((with_reducible apply lm_sP); exact rfl; exact rfl)
    | ((with_reducible apply lm_sPL); exact rfl; exact rfl)
    | ((with_reducible apply lm_sAA); exact rfl; first | exact rfl | exact lm_roO (by omega) | exact lm_roM (by omega))
    | ((with_reducible apply lm_sI); exact lm_fpL (by omega))
    | ((with_reducible apply lm_sR); exact lm_fpB (by omega))
    | ((with_reducible apply lm_sP); exact lm_fpL (by omega); exact rfl)
    | ((with_reducible apply lm_sS); exact lm_ocO (by omega); exact rfl)
    | ((with_reducible apply lm_sA); exact rfl; omega)
    | ((with_reducible apply lm_sJ); exact rfl; omega)
    | ((with_reducible apply lm_sB); (first | exact rfl | exact lm_arB (by omega) | exact lm_arM (by omega)); omega)
    | ((with_reducible apply lm_wA); exact rfl; omega)
    | ((with_reducible apply lm_wJ); exact rfl; omega)
    | ((with_reducible apply lm_wB); (first | exact rfl | exact lm_arB (by omega) | exact lm_arM (by omega)); omega)
    | ((with_reducible apply lm_sAl); (first | exact rfl | exact lm_arB (by omega) | exact lm_arM (by omega)); omega)
    | ((with_reducible apply lm_iW); decide)
    | ((with_reducible apply lm_iTd); exact rfl)
    | ((with_reducible apply lm_iFd); exact rfl)
    | ((with_reducible apply lm_sSt); exact rfl; exact rfl; exact rfl)
    | ((with_reducible apply lm_sIz); exact rfl)
    | ((with_reducible apply lm_sPz); exact rfl; exact rfl; decide))
    refine lm_e107_108 ?_
    unfold lm_q107_108
    repeat (first
    | ((with_reducible apply lm_sI); exact rfl)
    | ((with_reducible apply lm_sR); exact rfl)
    | ((with_reducible apply lm_sS); exact rfl; exact rfl)
    | ((with_reducible apply lm_sL); exact rfl)
    | ((with_reducible apply lm_sP); exact rfl; exact rfl)
    | ((with_reducible apply lm_sPL); exact rfl; exact rfl)
    | ((with_reducible apply lm_sAA); exact rfl; first | exact rfl | exact lm_roO (by omega) | exact lm_roM (by omega))
    | ((with_reducible apply lm_sI); exact lm_fpL (by omega))
    | ((with_reducible apply lm_sR); exact lm_fpB (by omega))
    | ((with_reducible apply lm_sP); exact lm_fpL (by omega); exact rfl)
    | ((with_reducible apply lm_sS); exact lm_ocO (by omega); exact rfl)
    | ((with_reducible apply lm_sA); exact rfl; omega)
    | ((with_reducible apply lm_sJ); exact rfl; omega)
    | ((with_reducible apply lm_sB); (first | exact rfl | exact lm_arB (by omega) | exact lm_arM (by omega)); omega)
    | ((with_reducible apply lm_wA); exact rfl; omega)
    | ((with_reducible apply lm_wJ); exact rfl; omega)
    | ((with_reducible apply lm_wB); (first | exact rfl | exact lm_arB (by omega) | exact lm_arM (by omega)); omega)
    | ((with_reducible apply lm_sAl); (first | exact rfl | exact lm_arB (by omega) | exact lm_arM (by omega)); omega)
    | ((with_reducible apply lm_iW); decide)
    | ((with_reducible apply lm_iTd); exact rfl)
    | ((with_reducible apply lm_iFd); exact rfl)
    | ((with_reducible apply lm_sSt); exact rfl; exact rfl; exact rfl)
    | ((with_reducible apply lm_sIz); exact rfl)
    | ((with_reducible apply lm_sPz); exact rfl; exact rfl; decide))
    refine lm_e107_158 ?_
    unfold lm_q107_158
    repeat (first
    | ((with_reducible apply lm_sI); exact rfl)
    | ((with_reducible apply lm_sR); exact rfl)
    | ((with_reducible apply lm_sS); exact rfl; exact rfl)
    | ((with_reducible apply lm_sL); exact rfl)
    | ((with_reducible apply lm_sP); exact rfl; exact rfl)
    | ((with_reducible apply lm_sPL); exact rfl; exact rfl)
    | ((with_reducible apply lm_sAA); exact rfl; first | exact rfl | exact lm_roO (by omega) | exact lm_roM (by omega))
    | ((with_reducible apply lm_sI); exact lm_fpL (by omega))
    | ((with_reducible apply lm_sR); exact lm_fpB (by omega))
    | ((with_reducible apply lm_sP); exact lm_fpL (by omega); exact rfl)
    | ((with_reducible apply lm_sS); exact lm_ocO (by omega); exact rfl)
    | ((with_reducible apply lm_sA); exact rfl; omega)
    | ((with_reducible apply lm_sJ); exact rfl; omega)
    | ((with_reducible apply lm_sB); (first | exact rfl | exact lm_arB (by omega) | exact lm_arM (by omega)); omega)
    | ((with_reducible apply lm_wA); exact rfl; omega)
    | ((with_reducible apply lm_wJ); exact rfl; omega)
    | ((with_reducible apply lm_wB); (first | exact rfl | exact lm_arB (by omega) | exact lm_arM (by omega)); omega)
    | ((with_reducible apply lm_sAl); (first | exact rfl | exact lm_arB (by omega) | exact lm_arM (by omega)); omega)
    | ((with_reducible apply lm_iW); decide)
    | ((with_reducible apply lm_iTd); exact rfl)
    | ((with_reducible apply lm_iFd); exact rfl)
    | ((with_reducible apply lm_sSt); exact rfl; exact rfl; exact rfl)
    | ((with_reducible apply lm_sIz); exact rfl)
    | ((with_reducible apply lm_sPz); exact rfl; exact rfl; decide))
    exact e
end LMSM
