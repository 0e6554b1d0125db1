/-! ===== the sets of Slh ===== -/
def lm_sn (s : Nat) : Nat := [16, 16, 24, 24, 32, 32].getD (s % 6) 0
def lm_sd (s : Nat) : Nat := [7, 22, 7, 22, 8, 17].getD (s % 6) 0
def lm_sh (s : Nat) : Nat := [9, 3, 9, 3, 8, 4].getD (s % 6) 0
section LMSL
variable {sc : lm_H} {xs : List Int32} {d s l k : Nat} {m : lm_MI} {n : lm_ML} {x : lm_H × Nat × Nat} {v w : Int32}
/-- one of the three hashes laid into a field -/
theorem lm_sPh {β : Type} {K : Nat} {D : List (Nat × List Nat)} {e o p : Nat} {f : Unit → lm_M β} {r : Option (Except Nat β × lm_S)} (h : lm_fpW K D e o = some 3) (he : e % 4 = 2) (hp : Nat.ble p 100 = true) (k : f () (lm_W K D (lm_u m o (e / 4 % 100) (Int32.ofNat p)) n x) = r) : lm_bind (lm_putf e o (.ref p)) f (lm_W K D m n x) = r := by
  obtain ⟨c, ps, h1, h2, h3⟩ := lm_shp_fp h
  rw [← k]
  refine lm_bd_ok ((lm_putf_ok (lm_mk_get h1) (lm_q_lt h1) h2 ?_ ?_).trans ?_)
  · rw [List.length_mapIdx]
    exact Nat.blt_eq.mpr (List.getElem?_eq_some_iff.mp h3).1
  · rw [he]
    rfl
  · unfold lm_W
    rw [lm_mk_set (m' := lm_u m o (e / 4 % 100) (Int32.ofNat p)) (n' := n) h1 ?_ (fun p hp => lm_u_row hp) (fun _ _ => rfl)]
    show (Sum.inr (Sum.inr (Sum.inr (c, _))) : lm_C) = _
    rw [lm_mi_set (g := fun k p => lm_fv m n o k p) (g' := fun k q => lm_fv (lm_u m o (e / 4 % 100) (Int32.ofNat p)) n o k q) h3]
    · show Value.ref (lm_u m o (e / 4 % 100) (Int32.ofNat p) o (e / 4 % 100)).toNatClampNeg = _
      rw [lm_u_eq, (lm_nn (a := p) (by have := Nat.ble_eq.mp hp; omega)).2]
    · exact fun i p hi => lm_fv_ne hi
/-- Arrays.fill of bytes, whole -/
theorem lm_l199 {q k : Nat} (ht : lm_ar q = some (1, k)) : ∀ j t, t + j = k → lm_rn sc d lm_m199.2.2.2.2.1 (lm_reg lm_m199.2.2.2.2.2) (5, [(0, .ref q), (1, .int v), (2, .int (Int32.ofNat t)), (3, .int (Int32.ofNat k))], []) (lm_w (lm_fil m q 0 t fun _ => v) n x) = some (.ok none, lm_w (lm_fil m q 0 k fun _ => v) n x) := by
  have hk := lm_ar_le ht
  intro j
  induction j with
  | zero =>
    intro t h4
    have h4 : t = k := h4
    subst h4
    refine lm_e199_5 ?_
    unfold lm_q199_5
    exact lm_geT (by omega) (by omega) (by omega) rfl
  | succ j ih =>
    intro t h4
    refine lm_e199_5 ?_
    unfold lm_q199_5
    refine lm_geF (by omega) (by omega) (by omega) ?_
    simp only [lm_K1, lm_oo]
    refine lm_wB ht (by omega) ?_
    rw [show lm_u (lm_fil m q 0 t fun _ => v) q t v = _ from lm_fl_step (g := fun _ => v) (Nat.zero_le t)]
    exact ih (t + 1) (by omega)
theorem lm_u199 {q k : Nat} (ht : lm_ar q = some (1, k)) : lm_cal sc (d + 1) 199 [.ref q, .int v] (lm_w m n x) = some (.ok none, lm_w (lm_fil m q 0 k fun _ => v) n x) := by
  refine lm_cal_of (Y := lm_m199) rfl rfl (lm_e199_0 ?_)
  unfold lm_q199_0
  refine lm_sAl ht (by decide) ?_
  rw [lm_K0]
  have g := lm_l199 (sc := sc) (d := d) (m := m) (n := n) (x := x) (v := v) ht k 0 (by omega)
  rw [lm_fl_nil] at g
  exact g
/-- which hash -/
theorem lm_u204 (h : k ≤ 12) (h1 : 1 ≤ k) : lm_cal sc (d + 1) 204 [.ref 4, .int (Int32.ofNat k)] (lm_w m n x) = some (.ok (some (.ref (if k = 1 ∨ k = 4 then 11 else if k ≤ 6 then 17 else 5))), lm_w m n x) := by
  refine lm_cal_of (Y := lm_m204) rfl rfl (lm_e204_0 ?_)
  unfold lm_q204_0
  simp only [lm_K1, lm_K4, lm_K6]
  by_cases c1 : k = 1
  · rw [if_pos (Or.inl c1)]
    refine lm_eqT (by omega) (by omega) c1 ?_
    repeat (first
    | ((with_reducible apply lm_sI); exact rfl)
    | ((with_reducible apply lm_sR); exact rfl)
    | ((with_reducible apply lm_sS); exact rfl; exact rfl)
    | ((with_reducible apply lm_sL); exact rfl)
    | ((with_reducible apply lm_sP); exact rfl; exact rfl)
    | ((with_reducible apply lm_sPL); exact rfl; exact rfl)
    | ((with_reducible apply lm_sAA); exact rfl; first | exact rfl | exact lm_roO (by omega) | exact lm_roM (by omega))
    | ((with_reducible apply lm_sI); exact lm_fpL (by omega))
    | ((with_reducible apply lm_sR); exact lm_fpB (by omega))
    | ((with_reducible apply lm_sP); exact lm_fpL (by omega); exact rfl)
    | ((with_reducible apply lm_sS); exact lm_ocO (by omega); exact rfl)
    | ((with_reducible apply lm_sA); exact rfl; omega)
    | ((with_reducible apply lm_sJ); exact rfl; omega)
    | ((with_reducible apply lm_sB); (first | exact rfl | exact lm_arB (by omega) | exact lm_arM (by omega)); omega)
    | ((with_reducible apply lm_wA); exact rfl; omega)
    | ((with_reducible apply lm_wJ); exact rfl; omega)
    | ((with_reducible apply lm_wB); (first | exact rfl | exact lm_arB (by omega) | exact lm_arM (by omega)); omega)
    | ((with_reducible apply lm_sAl); (first | exact rfl | exact lm_arB (by omega) | exact lm_arM (by omega)); omega)
    | ((with_reducible apply lm_iW); decide))
    exact rfl
  · refine lm_eqF (by omega) (by omega) c1 ?_
    by_cases c4 : k = 4
    · rw [if_pos (Or.inr c4)]
      refine lm_neF (by omega) (by omega) (fun g => g c4) ?_
      repeat (first
    | ((with_reducible apply lm_sI); exact rfl)
    | ((with_reducible apply lm_sR); exact rfl)
    | ((with_reducible apply lm_sS); exact rfl; exact rfl)
    | ((with_reducible apply lm_sL); exact rfl)
    | ((with_reducible apply lm_sP); exact rfl; exact rfl)
    | ((with_reducible apply lm_sPL); exact rfl; exact rfl)
    | ((with_reducible apply lm_sAA); exact rfl; first | exact rfl | exact lm_roO (by omega) | exact lm_roM (by omega))
    | ((with_reducible apply lm_sI); exact lm_fpL (by omega))
    | ((with_reducible apply lm_sR); exact lm_fpB (by omega))
    | ((with_reducible apply lm_sP); exact lm_fpL (by omega); exact rfl)
    | ((with_reducible apply lm_sS); exact lm_ocO (by omega); exact rfl)
    | ((with_reducible apply lm_sA); exact rfl; omega)
    | ((with_reducible apply lm_sJ); exact rfl; omega)
    | ((with_reducible apply lm_sB); (first | exact rfl | exact lm_arB (by omega) | exact lm_arM (by omega)); omega)
    | ((with_reducible apply lm_wA); exact rfl; omega)
    | ((with_reducible apply lm_wJ); exact rfl; omega)
    | ((with_reducible apply lm_wB); (first | exact rfl | exact lm_arB (by omega) | exact lm_arM (by omega)); omega)
    | ((with_reducible apply lm_sAl); (first | exact rfl | exact lm_arB (by omega) | exact lm_arM (by omega)); omega)
    | ((with_reducible apply lm_iW); decide))
      exact rfl
    · rw [if_neg (fun g => g.elim c1 c4)]
      refine lm_neT (by omega) (by omega) c4 ?_
      by_cases c6 : k ≤ 6
      · rw [if_pos c6]
        refine lm_gtF (by omega) (by omega) (by omega) ?_
        repeat (first
    | ((with_reducible apply lm_sI); exact rfl)
    | ((with_reducible apply lm_sR); exact rfl)
    | ((with_reducible apply lm_sS); exact rfl; exact rfl)
    | ((with_reducible apply lm_sL); exact rfl)
    | ((with_reducible apply lm_sP); exact rfl; exact rfl)
    | ((with_reducible apply lm_sPL); exact rfl; exact rfl)
    | ((with_reducible apply lm_sAA); exact rfl; first | exact rfl | exact lm_roO (by omega) | exact lm_roM (by omega))
    | ((with_reducible apply lm_sI); exact lm_fpL (by omega))
    | ((with_reducible apply lm_sR); exact lm_fpB (by omega))
    | ((with_reducible apply lm_sP); exact lm_fpL (by omega); exact rfl)
    | ((with_reducible apply lm_sS); exact lm_ocO (by omega); exact rfl)
    | ((with_reducible apply lm_sA); exact rfl; omega)
    | ((with_reducible apply lm_sJ); exact rfl; omega)
    | ((with_reducible apply lm_sB); (first | exact rfl | exact lm_arB (by omega) | exact lm_arM (by omega)); omega)
    | ((with_reducible apply lm_wA); exact rfl; omega)
    | ((with_reducible apply lm_wJ); exact rfl; omega)
    | ((with_reducible apply lm_wB); (first | exact rfl | exact lm_arB (by omega) | exact lm_arM (by omega)); omega)
    | ((with_reducible apply lm_sAl); (first | exact rfl | exact lm_arB (by omega) | exact lm_arM (by omega)); omega)
    | ((with_reducible apply lm_iW); decide))
        exact rfl
      · rw [if_neg c6]
        refine lm_gtT (by omega) (by omega) (by omega) ?_
        repeat (first
    | ((with_reducible apply lm_sI); exact rfl)
    | ((with_reducible apply lm_sR); exact rfl)
    | ((with_reducible apply lm_sS); exact rfl; exact rfl)
    | ((with_reducible apply lm_sL); exact rfl)
    | ((with_reducible apply lm_sP); exact rfl; exact rfl)
    | ((with_reducible apply lm_sPL); exact rfl; exact rfl)
    | ((with_reducible apply lm_sAA); exact rfl; first | exact rfl | exact lm_roO (by omega) | exact lm_roM (by omega))
    | ((with_reducible apply lm_sI); exact lm_fpL (by omega))
    | ((with_reducible apply lm_sR); exact lm_fpB (by omega))
    | ((with_reducible apply lm_sP); exact lm_fpL (by omega); exact rfl)
    | ((with_reducible apply lm_sS); exact lm_ocO (by omega); exact rfl)
    | ((with_reducible apply lm_sA); exact rfl; omega)
    | ((with_reducible apply lm_sJ); exact rfl; omega)
    | ((with_reducible apply lm_sB); (first | exact rfl | exact lm_arB (by omega) | exact lm_arM (by omega)); omega)
    | ((with_reducible apply lm_wA); exact rfl; omega)
    | ((with_reducible apply lm_wJ); exact rfl; omega)
    | ((with_reducible apply lm_wB); (first | exact rfl | exact lm_arB (by omega) | exact lm_arM (by omega)); omega)
    | ((with_reducible apply lm_sAl); (first | exact rfl | exact lm_arB (by omega) | exact lm_arM (by omega)); omega)
    | ((with_reducible apply lm_iW); decide))
        exact rfl
/-- the class chooses a set -/
def lm_PS (m : lm_MI) (s : Nat) (m' : lm_MI) : Prop := m' 194 4 = Int32.ofNat (lm_sn s) ∧ m' 194 5 = Int32.ofNat (lm_sd s) ∧ m' 194 6 = Int32.ofNat (lm_sh s) ∧ ∀ q, q ≠ 194 → q ≠ 195 → m' q = m q
theorem lm_tab16 : ∀ a, a < 6 → ([16, 16, 24, 24, 32, 32] : List Int32).getD a 0 = Int32.ofNat ([16, 16, 24, 24, 32, 32].getD a 0) := by decide
theorem lm_tab17 : ∀ a, a < 6 → ([7, 22, 7, 22, 8, 17] : List Int32).getD a 0 = Int32.ofNat ([7, 22, 7, 22, 8, 17].getD a 0) := by decide
theorem lm_tab18 : ∀ a, a < 6 → ([63, 66, 63, 66, 64, 68] : List Int32).getD a 0 = Int32.ofNat ([63, 66, 63, 66, 64, 68].getD a 0) := by decide
theorem lm_tab19 : ∀ a, a < 6 → ([12, 6, 14, 8, 14, 9] : List Int32).getD a 0 = Int32.ofNat ([12, 6, 14, 8, 14, 9].getD a 0) := by decide
theorem lm_tab20 : ∀ a, a < 6 → ([14, 33, 17, 33, 22, 35] : List Int32).getD a 0 = Int32.ofNat ([14, 33, 17, 33, 22, 35].getD a 0) := by decide
theorem lm_tbq : ∀ a, a < 6 → [63, 66, 63, 66, 64, 68].getD a 0 / [7, 22, 7, 22, 8, 17].getD a 0 = [9, 3, 9, 3, 8, 4].getD a 0 ∧ 0 < [7, 22, 7, 22, 8, 17].getD a 0 ∧ [7, 22, 7, 22, 8, 17].getD a 0 ≤ 22 ∧ [63, 66, 63, 66, 64, 68].getD a 0 ≤ 68 ∧ [16, 16, 24, 24, 32, 32].getD a 0 ≤ 32 ∧ 16 ≤ [16, 16, 24, 24, 32, 32].getD a 0 ∧ [9, 3, 9, 3, 8, 4].getD a 0 ≤ 9 := by decide
/-- behind the numbers: which hashes, and the zeros -/
theorem lm_u176e {k1 k2 : Nat} (h1 : 1 ≤ k1) (h1' : k1 ≤ 12) (h2 : 1 ≤ k2) (h2' : k2 ≤ 12) (h11 : m 194 11 = Int32.ofNat k2) : ∃ m', lm_rn sc (d + 1) lm_m176.2.2.2.2.1 (lm_reg lm_m176.2.2.2.2.2) (144, [(0, .ref 194)], [.int (Int32.ofNat k1), .ref 4, .ref 194]) (lm_w m n x) = some (.ok none, lm_w m' n x) ∧ (∀ j, j ≠ 1 → j ≠ 2 → m' 194 j = m 194 j) ∧ ∀ q, q ≠ 194 → q ≠ 195 → m' q = m q := by
  refine ⟨lm_fil (lm_u (lm_u m 194 1 (Int32.ofNat (if k1 = 1 ∨ k1 = 4 then 11 else if k1 ≤ 6 then 17 else 5))) 194 2 (Int32.ofNat (if k2 = 1 ∨ k2 = 4 then 11 else if k2 ≤ 6 then 17 else 5))) 195 0 32 fun _ => Int32.ofInt 0, ?_, ?_, ?_⟩
  · refine lm_e176_144 ?_
    unfold lm_q176_144
    repeat (first
    | ((with_reducible apply lm_sI); exact rfl)
    | ((with_reducible apply lm_sR); exact rfl)
    | ((with_reducible apply lm_sS); exact rfl; exact rfl)
    | ((with_reducible apply lm_sL); exact rfl)
    | ((with_reducible apply lm_sP); exact rfl; exact rfl)
    | ((with_reducible apply lm_sPL); exact rfl; exact rfl)
    | ((with_reducible apply lm_sAA); exact rfl; first | exact rfl | exact lm_roO (by omega) | exact lm_roM (by omega))
    | ((with_reducible apply lm_sI); exact lm_fpL (by omega))
    | ((with_reducible apply lm_sR); exact lm_fpB (by omega))
    | ((with_reducible apply lm_sP); exact lm_fpL (by omega); exact rfl)
    | ((with_reducible apply lm_sS); exact lm_ocO (by omega); exact rfl)
    | ((with_reducible apply lm_sA); exact rfl; omega)
    | ((with_reducible apply lm_sJ); exact rfl; omega)
    | ((with_reducible apply lm_sB); (first | exact rfl | exact lm_arB (by omega) | exact lm_arM (by omega)); omega)
    | ((with_reducible apply lm_wA); exact rfl; omega)
    | ((with_reducible apply lm_wJ); exact rfl; omega)
    | ((with_reducible apply lm_wB); (first | exact rfl | exact lm_arB (by omega) | exact lm_arM (by omega)); omega)
    | ((with_reducible apply lm_sAl); (first | exact rfl | exact lm_arB (by omega) | exact lm_arM (by omega)); omega)
    | ((with_reducible apply lm_iW); decide))
    refine lm_cR (lm_u204 (d := d) h1' h1) ?_
    refine lm_sPh rfl rfl (by split; rfl; split <;> rfl) ?_
    repeat (first
    | ((with_reducible apply lm_sI); exact rfl)
    | ((with_reducible apply lm_sR); exact rfl)
    | ((with_reducible apply lm_sS); exact rfl; exact rfl)
    | ((with_reducible apply lm_sL); exact rfl)
    | ((with_reducible apply lm_sP); exact rfl; exact rfl)
    | ((with_reducible apply lm_sPL); exact rfl; exact rfl)
    | ((with_reducible apply lm_sAA); exact rfl; first | exact rfl | exact lm_roO (by omega) | exact lm_roM (by omega))
    | ((with_reducible apply lm_sI); exact lm_fpL (by omega))
    | ((with_reducible apply lm_sR); exact lm_fpB (by omega))
    | ((with_reducible apply lm_sP); exact lm_fpL (by omega); exact rfl)
    | ((with_reducible apply lm_sS); exact lm_ocO (by omega); exact rfl)
    | ((with_reducible apply lm_sA); exact rfl; omega)
    | ((with_reducible apply lm_sJ); exact rfl; omega)
    | ((with_reducible apply lm_sB); (first | exact rfl | exact lm_arB (by omega) | exact lm_arM (by omega)); omega)
    | ((with_reducible apply lm_wA); exact rfl; omega)
    | ((with_reducible apply lm_wJ); exact rfl; omega)
    | ((with_reducible apply lm_wB); (first | exact rfl | exact lm_arB (by omega) | exact lm_arM (by omega)); omega)
    | ((with_reducible apply lm_sAl); (first | exact rfl | exact lm_arB (by omega) | exact lm_arM (by omega)); omega)
    | ((with_reducible apply lm_iW); decide))
    simp only [Nat.reduceDiv, Nat.reduceMod]
    rw [lm_u_ne (by decide), h11]
    refine lm_cR (lm_u204 (d := d) h2' h2) ?_
    refine lm_sPh rfl rfl (by split; rfl; split <;> rfl) ?_
    repeat (first
    | ((with_reducible apply lm_sI); exact rfl)
    | ((with_reducible apply lm_sR); exact rfl)
    | ((with_reducible apply lm_sS); exact rfl; exact rfl)
    | ((with_reducible apply lm_sL); exact rfl)
    | ((with_reducible apply lm_sP); exact rfl; exact rfl)
    | ((with_reducible apply lm_sPL); exact rfl; exact rfl)
    | ((with_reducible apply lm_sAA); exact rfl; first | exact rfl | exact lm_roO (by omega) | exact lm_roM (by omega))
    | ((with_reducible apply lm_sI); exact lm_fpL (by omega))
    | ((with_reducible apply lm_sR); exact lm_fpB (by omega))
    | ((with_reducible apply lm_sP); exact lm_fpL (by omega); exact rfl)
    | ((with_reducible apply lm_sS); exact lm_ocO (by omega); exact rfl)
    | ((with_reducible apply lm_sA); exact rfl; omega)
    | ((with_reducible apply lm_sJ); exact rfl; omega)
    | ((with_reducible apply lm_sB); (first | exact rfl | exact lm_arB (by omega) | exact lm_arM (by omega)); omega)
    | ((with_reducible apply lm_wA); exact rfl; omega)
    | ((with_reducible apply lm_wJ); exact rfl; omega)
    | ((with_reducible apply lm_wB); (first | exact rfl | exact lm_arB (by omega) | exact lm_arM (by omega)); omega)
    | ((with_reducible apply lm_sAl); (first | exact rfl | exact lm_arB (by omega) | exact lm_arM (by omega)); omega)
    | ((with_reducible apply lm_iW); decide))
    refine lm_cV (lm_u199 (d := d) (k := 32) rfl) ?_
    exact rfl
  · intro j a b
    rw [lm_fl_row (by decide), lm_u_ne (fun g => b g.2), lm_u_ne (fun g => a g.2)]
  · intro q a b
    rw [lm_fl_row b, lm_u_row a, lm_u_row a]
theorem lm_u176 (hs : s ≤ 11) : ∃ m', lm_cal (lm_sc xs) (d + 2) 176 [.ref 194, .int (Int32.ofNat s)] (lm_w m n x) = some (.ok none, lm_w m' n x) ∧ lm_PS m s m' := by
  have h6 : s % 6 < 6 := Nat.mod_lt _ (by decide)
  obtain ⟨q1, q2, q3, q4, q5, q6, q7⟩ := lm_tbq (s % 6) h6
  have b6 : Nat.blt (s % 6) 6 = true := Nat.blt_eq.mpr h6
  have fin : ∀ (m1 : lm_MI) (k1 k2 : Nat), 1 ≤ k1 → k1 ≤ 12 → 1 ≤ k2 → k2 ≤ 12 → m1 194 4 = Int32.ofNat (lm_sn s) → m1 194 5 = Int32.ofNat (lm_sd s) → m1 194 6 = Int32.ofNat (lm_sh s) → (∀ q, q ≠ 194 → m1 q = m q) → (lm_b1 (m1 194 3) = 0 ∧ k1 = 1 ∨ ¬ lm_b1 (m1 194 3) = 0 ∧ k1 = 12) → ∃ m', lm_rn (lm_sc xs) (d + 1) lm_m176.2.2.2.2.1 (lm_reg lm_m176.2.2.2.2.2) (123, [(0, .ref 194)], [.int (Int32.ofNat k2), .ref 194]) (lm_w m1 n x) = some (.ok none, lm_w m' n x) ∧ lm_PS m s m' := by
    intro m1 k1 k2 a1 a2 a3 a4 a5 a6 a7 a8 a9
    obtain ⟨m', e, f1, f2⟩ := lm_u176e (sc := lm_sc xs) (d := d) (m := lm_u m1 194 11 (Int32.ofNat k2)) (n := n) (x := x) a1 a2 a3 a4 lm_u_eq
    refine ⟨m', ?_, ?_⟩
    · refine lm_e176_123 ?_
      unfold lm_q176_123
      repeat (first
    | ((with_reducible apply lm_sI); exact rfl)
    | ((with_reducible apply lm_sR); exact rfl)
    | ((with_reducible apply lm_sS); exact rfl; exact rfl)
    | ((with_reducible apply lm_sL); exact rfl)
    | ((with_reducible apply lm_sP); exact rfl; exact rfl)
    | ((with_reducible apply lm_sPL); exact rfl; exact rfl)
    | ((with_reducible apply lm_sAA); exact rfl; first | exact rfl | exact lm_roO (by omega) | exact lm_roM (by omega))
    | ((with_reducible apply lm_sI); exact lm_fpL (by omega))
    | ((with_reducible apply lm_sR); exact lm_fpB (by omega))
    | ((with_reducible apply lm_sP); exact lm_fpL (by omega); exact rfl)
    | ((with_reducible apply lm_sS); exact lm_ocO (by omega); exact rfl)
    | ((with_reducible apply lm_sA); exact rfl; omega)
    | ((with_reducible apply lm_sJ); exact rfl; omega)
    | ((with_reducible apply lm_sB); (first | exact rfl | exact lm_arB (by omega) | exact lm_arM (by omega)); omega)
    | ((with_reducible apply lm_wA); exact rfl; omega)
    | ((with_reducible apply lm_wJ); exact rfl; omega)
    | ((with_reducible apply lm_wB); (first | exact rfl | exact lm_arB (by omega) | exact lm_arM (by omega)); omega)
    | ((with_reducible apply lm_sAl); (first | exact rfl | exact lm_arB (by omega) | exact lm_arM (by omega)); omega)
    | ((with_reducible apply lm_iW); decide))
      refine lm_sIz rfl ?_
      simp only [Nat.reduceDiv, Nat.reduceMod]
      rw [lm_u_ne (by decide)]
      rcases a9 with ⟨c, ck⟩ | ⟨c, ck⟩
      · subst ck
        exact lm_iT (show lm_b1 (m1 194 3) = 0 from c) e
      · subst ck
        exact lm_iF (show ¬ lm_b1 (m1 194 3) = 0 from c) e
    · refine ⟨?_, ?_, ?_, fun q g1 g2 => ?_⟩
      · rw [f1 4 (by decide) (by decide), lm_u_ne (by decide)]; exact a5
      · rw [f1 5 (by decide) (by decide), lm_u_ne (by decide)]; exact a6
      · rw [f1 6 (by decide) (by decide), lm_u_ne (by decide)]; exact a7
      · rw [f2 q g1 g2, lm_u_row g1]; exact a8 q g1
  have mid : ∀ z : Int32, (z = 0 ∨ z = 1) → ∃ m', lm_rn (lm_sc xs) (d + 1) lm_m176.2.2.2.2.1 (lm_reg lm_m176.2.2.2.2.2) (17, [(0, .ref 194), (2, .int (Int32.ofNat (s % 6)))], [.int z, .ref 194]) (lm_w m n x) = some (.ok none, lm_w m' n x) ∧ lm_PS m s m' := by
    intro z hz
    have hb : lm_b1 z = z := by rcases hz with hz | hz <;> rw [hz] <;> rfl
    have M : ∀ (k1 k2 : Nat), 1 ≤ k1 → k1 ≤ 12 → 1 ≤ k2 → k2 ≤ 12 → (z = 0 ∧ k1 = 1 ∨ ¬ z = 0 ∧ k1 = 12) → _ := fun k1 k2 a1 a2 a3 a4 a9 => fin (lm_u (lm_u (lm_u (lm_u (lm_u (lm_u (lm_u (lm_u m 194 3 z) 194 4 (Int32.ofNat (lm_sn s))) 194 5 (Int32.ofNat (lm_sd s))) 194 6 (Int32.ofNat (lm_sh s))) 194 10 (Int32.ofNat ([63, 66, 63, 66, 64, 68].getD (s % 6) 0 - lm_sh s))) 194 7 (Int32.ofNat ([12, 6, 14, 8, 14, 9].getD (s % 6) 0))) 194 8 (Int32.ofNat ([14, 33, 17, 33, 22, 35].getD (s % 6) 0))) 194 9 (Int32.ofNat (2 * lm_sn s + 3))) k1 k2 a1 a2 a3 a4 (by simp [lm_rd]) (by simp [lm_rd]) (by simp [lm_rd]) (fun q hq => by rw [lm_u_row hq, lm_u_row hq, lm_u_row hq, lm_u_row hq, lm_u_row hq, lm_u_row hq, lm_u_row hq, lm_u_row hq]) (by
      have e3 : lm_u (lm_u (lm_u (lm_u (lm_u (lm_u (lm_u (lm_u m 194 3 z) 194 4 (Int32.ofNat (lm_sn s))) 194 5 (Int32.ofNat (lm_sd s))) 194 6 (Int32.ofNat (lm_sh s))) 194 10 (Int32.ofNat ([63, 66, 63, 66, 64, 68].getD (s % 6) 0 - lm_sh s))) 194 7 (Int32.ofNat ([12, 6, 14, 8, 14, 9].getD (s % 6) 0))) 194 8 (Int32.ofNat ([14, 33, 17, 33, 22, 35].getD (s % 6) 0))) 194 9 (Int32.ofNat (2 * lm_sn s + 3)) 194 3 = z := by simp [lm_rd]
      rw [e3, hb]
      exact a9)
    have run : ∀ (k2 : Nat) (r : Except Nat lm_R × lm_S), lm_rn (lm_sc xs) (d + 1) lm_m176.2.2.2.2.1 (lm_reg lm_m176.2.2.2.2.2) (123, [(0, .ref 194)], [.int (Int32.ofNat k2), .ref 194]) (lm_w (lm_u (lm_u (lm_u (lm_u (lm_u (lm_u (lm_u (lm_u m 194 3 z) 194 4 (Int32.ofNat (lm_sn s))) 194 5 (Int32.ofNat (lm_sd s))) 194 6 (Int32.ofNat (lm_sh s))) 194 10 (Int32.ofNat ([63, 66, 63, 66, 64, 68].getD (s % 6) 0 - lm_sh s))) 194 7 (Int32.ofNat ([12, 6, 14, 8, 14, 9].getD (s % 6) 0))) 194 8 (Int32.ofNat ([14, 33, 17, 33, 22, 35].getD (s % 6) 0))) 194 9 (Int32.ofNat (2 * lm_sn s + 3))) n x) = some r → k2 = (if z = 0 then (if lm_sn s = 16 then 1 else 3) else 12) → lm_rn (lm_sc xs) (d + 1) lm_m176.2.2.2.2.1 (lm_reg lm_m176.2.2.2.2.2) (17, [(0, .ref 194), (2, .int (Int32.ofNat (s % 6)))], [.int z, .ref 194]) (lm_w m n x) = some r := by
      intro k2 r hrun hk2
      refine lm_e176_17 ?_
      unfold lm_q176_17
      refine lm_sPz rfl rfl hz ?_
      refine lm_sSt (j := 16) rfl b6 rfl ?_
      rw [lm_tab16 _ h6]
      refine lm_sP rfl rfl ?_
      refine lm_sSt (j := 17) rfl b6 rfl ?_
      rw [lm_tab17 _ h6]
      refine lm_sP rfl rfl ?_
      refine lm_sSt (j := 18) rfl b6 rfl ?_
      rw [lm_tab18 _ h6]
      refine lm_sI rfl ?_
      simp only [Nat.reduceDiv, Nat.reduceMod, lm_u_eq]
      refine lm_iW (fun g => absurd ((lm_eq32 (b := 0) (by omega) (by omega)).mp g) (by omega)) ?_
      rw [lm_od (by omega) (by omega), q1]
      refine lm_sP rfl rfl ?_
      refine lm_sSt (j := 18) rfl b6 rfl ?_
      rw [lm_tab18 _ h6]
      refine lm_sI rfl ?_
      simp only [Nat.reduceDiv, Nat.reduceMod, lm_u_eq]
      have hle : [9, 3, 9, 3, 8, 4].getD (s % 6) 0 ≤ [63, 66, 63, 66, 64, 68].getD (s % 6) 0 := by rw [← q1]; exact Nat.div_le_self _ _
      rw [lm_osu hle]
      refine lm_sP rfl rfl ?_
      refine lm_sSt (j := 19) rfl b6 rfl ?_
      rw [lm_tab19 _ h6]
      refine lm_sP rfl rfl ?_
      refine lm_sSt (j := 20) rfl b6 rfl ?_
      rw [lm_tab20 _ h6]
      refine lm_sP rfl rfl ?_
      refine lm_sI rfl ?_
      simp only [Nat.reduceDiv, Nat.reduceMod, lm_rd, Nat.reduceEqDiff, and_false, and_true, and_self, if_false, if_true, lm_K2, lm_K3, lm_om, lm_oo]
      refine lm_sP rfl rfl ?_
      refine lm_sIz rfl ?_
      simp only [Nat.reduceDiv, Nat.reduceMod, lm_rd, Nat.reduceEqDiff, and_false, and_true, and_self, if_false, if_true]
      rw [hb]
      by_cases cz : z = 0
      · rw [if_pos cz] at hk2
        refine lm_iT (show z = 0 from cz) ?_
        refine lm_sI rfl ?_
        simp only [Nat.reduceDiv, Nat.reduceMod, lm_rd, Nat.reduceEqDiff, and_false, and_true, and_self, if_false, if_true, lm_K16]
        by_cases c16 : lm_sn s = 16
        · rw [if_pos c16] at hk2
          subst hk2
          exact lm_neF (by unfold lm_sn at c16; omega) (by omega) (fun g => g c16) hrun
        · rw [if_neg c16] at hk2
          subst hk2
          exact lm_neT (by omega) (by omega) c16 hrun
      · rw [if_neg cz] at hk2
        subst hk2
        exact lm_iF (show ¬ z = 0 from cz) hrun
    by_cases cz : z = 0
    · by_cases c16 : lm_sn s = 16
      · obtain ⟨m', e, f⟩ := M 1 1 (by decide) (by decide) (by decide) (by decide) (Or.inl ⟨cz, rfl⟩)
        exact ⟨m', run 1 _ e (by rw [if_pos cz, if_pos c16]), f⟩
      · obtain ⟨m', e, f⟩ := M 1 3 (by decide) (by decide) (by decide) (by decide) (Or.inl ⟨cz, rfl⟩)
        exact ⟨m', run 3 _ e (by rw [if_pos cz, if_neg c16]), f⟩
    · obtain ⟨m', e, f⟩ := M 12 12 (by decide) (by decide) (by decide) (by decide) (Or.inr ⟨cz, rfl⟩)
      exact ⟨m', run 12 _ e (by rw [if_neg cz]), f⟩
  have hd : ∀ (z : Int32) (r : Except Nat lm_R × lm_S), (z = if 6 ≤ s then 0 else 1) → lm_rn (lm_sc xs) (d + 1) lm_m176.2.2.2.2.1 (lm_reg lm_m176.2.2.2.2.2) (17, [(0, .ref 194), (2, .int (Int32.ofNat (s % 6)))], [.int z, .ref 194]) (lm_w m n x) = some r → lm_cal (lm_sc xs) (d + 2) 176 [.ref 194, .int (Int32.ofNat s)] (lm_w m n x) = some r := by
    intro z r hz h
    refine lm_cal_of (Y := lm_m176) rfl rfl (lm_e176_0 ?_)
    unfold lm_q176_0
    refine lm_iW (by decide) ?_
    rw [lm_K6, lm_orm (by omega) (by omega)]
    by_cases c : 6 ≤ s
    · rw [if_pos c] at hz
      subst hz
      exact lm_geT (by omega) (by omega) c h
    · rw [if_neg c] at hz
      subst hz
      exact lm_geF (by omega) (by omega) c h
  by_cases c : 6 ≤ s
  · obtain ⟨m', e, f⟩ := mid 0 (Or.inl rfl)
    exact ⟨m', hd 0 _ (by rw [if_pos c]) e, f⟩
  · obtain ⟨m', e, f⟩ := mid 1 (Or.inr rfl)
    exact ⟨m', hd 1 _ (by rw [if_neg c]) e, f⟩
end LMSL
