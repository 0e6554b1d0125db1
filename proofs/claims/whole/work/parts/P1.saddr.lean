/-! ===== SLH: the sets, the address ===== -/
def lm_sk (s : Nat) : Bool := decide (s < 6)
def ln_nk (s : Nat) : Nat := if s < 6 then 12 else 1
def lm_wk (s : Nat) : Nat := if s < 6 then 12 else if lm_sn s = 16 then 1 else 3
def lm_sa (s : Nat) : Nat := [12, 6, 14, 8, 14, 9].getD (s % 6) 0
def ln_sT (s : Nat) : Nat := [14, 33, 17, 33, 22, 35].getD (s % 6) 0
def lm_sHt (s : Nat) : Nat := [63, 66, 63, 66, 64, 68].getD (s % 6) 0
def lm_cw (s : Nat) : Nat := 2 * lm_sn s + 3
theorem lm_spar : ∀ s, s ≤ 11 → lm_sn s ≤ 32 ∧ 16 ≤ lm_sn s ∧ lm_sd s ≤ 22 ∧ 7 ≤ lm_sd s ∧ lm_sh s ≤ 9 ∧ 3 ≤ lm_sh s ∧ lm_sa s ≤ 14 ∧ 6 ≤ lm_sa s ∧ ln_sT s ≤ 35 ∧ 14 ≤ ln_sT s ∧ lm_sHt s ≤ 68 ∧ 63 ≤ lm_sHt s ∧ lm_sHt s = lm_sd s * lm_sh s := by decide
theorem ln_nk3 {s : Nat} : lm_k3 (ln_nk s) := by
  unfold ln_nk lm_k3
  by_cases c : s < 6
  · rw [if_pos c]; exact Or.inr (Or.inr rfl)
  · rw [if_neg c]; exact Or.inl rfl
theorem lm_wk3 {s : Nat} : lm_k3 (lm_wk s) := by
  unfold lm_wk lm_k3
  by_cases c : s < 6
  · rw [if_pos c]; exact Or.inr (Or.inr rfl)
  · rw [if_neg c]
    by_cases c2 : lm_sn s = 16
    · rw [if_pos c2]; exact Or.inl rfl
    · rw [if_neg c2]; exact Or.inr (Or.inl rfl)
theorem lm_k3_b {k : Nat} (h : lm_k3 k) : 1 ≤ k ∧ k ≤ 12 := by
  rcases h with h | h | h <;> omega
/-- the class's numbers of a set -/
def lm_SF (m : lm_MI) (s : Nat) : Prop := lm_b1 (m 194 3) = lm_z (lm_sk s) ∧ m 194 4 = Int32.ofNat (lm_sn s) ∧ m 194 5 = Int32.ofNat (lm_sd s) ∧ m 194 6 = Int32.ofNat (lm_sh s) ∧ m 194 7 = Int32.ofNat (lm_sa s) ∧ m 194 8 = Int32.ofNat (ln_sT s) ∧ m 194 9 = Int32.ofNat (lm_cw s) ∧ m 194 10 = Int32.ofNat (lm_sHt s - lm_sh s) ∧ m 194 11 = Int32.ofNat (lm_wk s) ∧ m 194 1 = Int32.ofNat (lm_obj (ln_nk s)) ∧ m 194 2 = Int32.ofNat (lm_obj (lm_wk s))
section LMSP
variable {xs : List Int32} {sc : lm_H} {d s : Nat} {m : lm_MI} {n : lm_ML} {x : lm_H × Nat × Nat}
theorem lm_l176 {k1 k2 : Nat} (h1 : 1 ≤ k1) (h1' : k1 ≤ 12) (h2 : 1 ≤ k2) (h2' : k2 ≤ 12) (h11 : m 194 11 = Int32.ofNat k2) : lm_rn sc (d + 1) lm_m176.2.2.2.2.1 (lm_reg lm_m176.2.2.2.2.2) (144, [(0, .ref 194)], [.int (Int32.ofNat k1), .ref 4, .ref 194]) (lm_w m n x) = some (.ok none, lm_w (lm_fil (lm_u (lm_u m 194 1 (Int32.ofNat (lm_obj k1))) 194 2 (Int32.ofNat (lm_obj k2))) 195 0 32 fun _ => Int32.ofInt 0) n x) := by
  refine lm_e176_144 ?_
  unfold lm_q176_144 lm_obj
  repeat (first
    | ((with_reducible apply lm_sI); exact rfl)
    | ((with_reducible apply lm_sR); exact rfl)
    | ((with_reducible apply lm_sS); exact rfl; exact rfl)
    | ((with_reducible apply lm_sL); exact rfl)
    | ((with_reducible apply lm_sP); exact rfl; exact rfl)
    | ((with_reducible apply lm_sPL); exact rfl; exact rfl)
    | ((with_reducible apply lm_sAA); exact rfl; first | exact rfl | exact lm_roO (by omega) | exact lm_roM (by omega))
    | ((with_reducible apply lm_sI); exact lm_fpL (by omega))
    | ((with_reducible apply lm_sR); exact lm_fpB (by omega))
    | ((with_reducible apply lm_sP); exact lm_fpL (by omega); exact rfl)
    | ((with_reducible apply lm_sS); exact lm_ocO (by omega); exact rfl)
    | ((with_reducible apply lm_sA); exact rfl; omega)
    | ((with_reducible apply lm_sJ); exact rfl; omega)
    | ((with_reducible apply lm_sB); (first | exact rfl | exact lm_arB (by omega) | exact lm_arM (by omega)); omega)
    | ((with_reducible apply lm_wA); exact rfl; omega)
    | ((with_reducible apply lm_wJ); exact rfl; omega)
    | ((with_reducible apply lm_wB); (first | exact rfl | exact lm_arB (by omega) | exact lm_arM (by omega)); omega)
    | ((with_reducible apply lm_sAl); (first | exact rfl | exact lm_arB (by omega) | exact lm_arM (by omega)); omega)
    | ((with_reducible apply lm_iW); decide))
  refine lm_cR (lm_u204 (d := d) h1' h1) ?_
  refine lm_sPh rfl rfl (by split; rfl; split <;> rfl) ?_
  repeat (first
    | ((with_reducible apply lm_sI); exact rfl)
    | ((with_reducible apply lm_sR); exact rfl)
    | ((with_reducible apply lm_sS); exact rfl; exact rfl)
    | ((with_reducible apply lm_sL); exact rfl)
    | ((with_reducible apply lm_sP); exact rfl; exact rfl)
    | ((with_reducible apply lm_sPL); exact rfl; exact rfl)
    | ((with_reducible apply lm_sAA); exact rfl; first | exact rfl | exact lm_roO (by omega) | exact lm_roM (by omega))
    | ((with_reducible apply lm_sI); exact lm_fpL (by omega))
    | ((with_reducible apply lm_sR); exact lm_fpB (by omega))
    | ((with_reducible apply lm_sP); exact lm_fpL (by omega); exact rfl)
    | ((with_reducible apply lm_sS); exact lm_ocO (by omega); exact rfl)
    | ((with_reducible apply lm_sA); exact rfl; omega)
    | ((with_reducible apply lm_sJ); exact rfl; omega)
    | ((with_reducible apply lm_sB); (first | exact rfl | exact lm_arB (by omega) | exact lm_arM (by omega)); omega)
    | ((with_reducible apply lm_wA); exact rfl; omega)
    | ((with_reducible apply lm_wJ); exact rfl; omega)
    | ((with_reducible apply lm_wB); (first | exact rfl | exact lm_arB (by omega) | exact lm_arM (by omega)); omega)
    | ((with_reducible apply lm_sAl); (first | exact rfl | exact lm_arB (by omega) | exact lm_arM (by omega)); omega)
    | ((with_reducible apply lm_iW); decide))
  simp only [Nat.reduceDiv, Nat.reduceMod]
  rw [lm_u_ne (by decide), h11]
  refine lm_cR (lm_u204 (d := d) h2' h2) ?_
  refine lm_sPh rfl rfl (by split; rfl; split <;> rfl) ?_
  repeat (first
    | ((with_reducible apply lm_sI); exact rfl)
    | ((with_reducible apply lm_sR); exact rfl)
    | ((with_reducible apply lm_sS); exact rfl; exact rfl)
    | ((with_reducible apply lm_sL); exact rfl)
    | ((with_reducible apply lm_sP); exact rfl; exact rfl)
    | ((with_reducible apply lm_sPL); exact rfl; exact rfl)
    | ((with_reducible apply lm_sAA); exact rfl; first | exact rfl | exact lm_roO (by omega) | exact lm_roM (by omega))
    | ((with_reducible apply lm_sI); exact lm_fpL (by omega))
    | ((with_reducible apply lm_sR); exact lm_fpB (by omega))
    | ((with_reducible apply lm_sP); exact lm_fpL (by omega); exact rfl)
    | ((with_reducible apply lm_sS); exact lm_ocO (by omega); exact rfl)
    | ((with_reducible apply lm_sA); exact rfl; omega)
    | ((with_reducible apply lm_sJ); exact rfl; omega)
    | ((with_reducible apply lm_sB); (first | exact rfl | exact lm_arB (by omega) | exact lm_arM (by omega)); omega)
    | ((with_reducible apply lm_wA); exact rfl; omega)
    | ((with_reducible apply lm_wJ); exact rfl; omega)
    | ((with_reducible apply lm_wB); (first | exact rfl | exact lm_arB (by omega) | exact lm_arM (by omega)); omega)
    | ((with_reducible apply lm_sAl); (first | exact rfl | exact lm_arB (by omega) | exact lm_arM (by omega)); omega)
    | ((with_reducible apply lm_iW); decide))
  refine lm_cV (lm_u199 (d := d) (k := 32) rfl) ?_
  exact rfl
theorem lm_u176c (hs : s ≤ 11) : ∃ m', lm_cal (lm_sc xs) (d + 2) 176 [.ref 194, .int (Int32.ofNat s)] (lm_w m n x) = some (.ok none, lm_w m' n x) ∧ lm_SF m' s ∧ (∀ t, t < 32 → lm_b8 (m' 195 t) = 0) ∧ ∀ q, q ≠ 194 → q ≠ 195 → m' q = m q := by
  have h6 : s % 6 < 6 := Nat.mod_lt _ (by decide)
  obtain ⟨q1, q2, q3, q4, q5, q6, q7⟩ := lm_tbq (s % 6) h6
  have b6 : Nat.blt (s % 6) 6 = true := Nat.blt_eq.mpr h6
  have hle : [9, 3, 9, 3, 8, 4].getD (s % 6) 0 ≤ [63, 66, 63, 66, 64, 68].getD (s % 6) 0 := by rw [← q1]; exact Nat.div_le_self _ _
  have hb : lm_b1 (lm_z (lm_sk s)) = lm_z (lm_sk s) := by cases lm_sk s <;> decide
  have hz : lm_z (lm_sk s) = 0 ∨ lm_z (lm_sk s) = 1 := by cases lm_sk s <;> decide
  generalize eM : lm_u (lm_u (lm_u (lm_u (lm_u (lm_u (lm_u (lm_u m 194 3 (lm_z (lm_sk s))) 194 4 (Int32.ofNat (lm_sn s))) 194 5 (Int32.ofNat (lm_sd s))) 194 6 (Int32.ofNat (lm_sh s))) 194 10 (Int32.ofNat ([63, 66, 63, 66, 64, 68].getD (s % 6) 0 - lm_sh s))) 194 7 (Int32.ofNat ([12, 6, 14, 8, 14, 9].getD (s % 6) 0))) 194 8 (Int32.ofNat ([14, 33, 17, 33, 22, 35].getD (s % 6) 0))) 194 9 (Int32.ofNat (2 * lm_sn s + 3)) = M
  have g3 : M 194 3 = lm_z (lm_sk s) := by rw [← eM]; simp [lm_rd]
  have g4 : M 194 4 = Int32.ofNat (lm_sn s) := by rw [← eM]; simp [lm_rd]
  have g5 : M 194 5 = Int32.ofNat (lm_sd s) := by rw [← eM]; simp [lm_rd]
  have g6 : M 194 6 = Int32.ofNat (lm_sh s) := by rw [← eM]; simp [lm_rd]
  have g7 : M 194 7 = Int32.ofNat (lm_sa s) := by rw [← eM]; simp [lm_rd, lm_sa]
  have g8 : M 194 8 = Int32.ofNat (ln_sT s) := by rw [← eM]; simp [lm_rd, ln_sT]
  have g9 : M 194 9 = Int32.ofNat (lm_cw s) := by rw [← eM, lm_u_eq]; rfl
  have g10 : M 194 10 = Int32.ofNat (lm_sHt s - lm_sh s) := by rw [← eM]; simp [lm_rd, lm_sHt]
  have gr : ∀ q, q ≠ 194 → M q = m q := fun q hq => by rw [← eM, lm_u_row hq, lm_u_row hq, lm_u_row hq, lm_u_row hq, lm_u_row hq, lm_u_row hq, lm_u_row hq, lm_u_row hq]
  have w3 := lm_k3_b (lm_wk3 (s := s))
  have n3 := lm_k3_b (ln_nk3 (s := s))
  have fin := lm_l176 (sc := lm_sc xs) (d := d) (m := lm_u M 194 11 (Int32.ofNat (lm_wk s))) (n := n) (x := x) n3.1 n3.2 w3.1 w3.2 lm_u_eq
  generalize eF : lm_fil (lm_u (lm_u (lm_u M 194 11 (Int32.ofNat (lm_wk s))) 194 1 (Int32.ofNat (lm_obj (ln_nk s)))) 194 2 (Int32.ofNat (lm_obj (lm_wk s)))) 195 0 32 (fun _ => Int32.ofInt 0) = F at fin
  have f194 : ∀ j, j ≠ 1 → j ≠ 2 → j ≠ 11 → F 194 j = M 194 j := fun j a b c => by rw [← eF, lm_fl_row (by decide), lm_u_ne (fun g => b g.2), lm_u_ne (fun g => a g.2), lm_u_ne (fun g => c g.2)]
  refine ⟨F, ?_, ⟨?_, ?_, ?_, ?_, ?_, ?_, ?_, ?_, ?_, ?_, ?_⟩, fun t ht => ?_, fun q a b => ?_⟩
  · have e123 : lm_rn (lm_sc xs) (d + 1) lm_m176.2.2.2.2.1 (lm_reg lm_m176.2.2.2.2.2) (123, [(0, .ref 194)], [.int (Int32.ofNat (lm_wk s)), .ref 194]) (lm_w M n x) = some (.ok none, lm_w F n x) := by
      refine lm_e176_123 ?_
      unfold lm_q176_123
      repeat (first
    | ((with_reducible apply lm_sI); exact rfl)
    | ((with_reducible apply lm_sR); exact rfl)
    | ((with_reducible apply lm_sS); exact rfl; exact rfl)
    | ((with_reducible apply lm_sL); exact rfl)
    | ((with_reducible apply lm_sP); exact rfl; exact rfl)
    | ((with_reducible apply lm_sPL); exact rfl; exact rfl)
    | ((with_reducible apply lm_sAA); exact rfl; first | exact rfl | exact lm_roO (by omega) | exact lm_roM (by omega))
    | ((with_reducible apply lm_sI); exact lm_fpL (by omega))
    | ((with_reducible apply lm_sR); exact lm_fpB (by omega))
    | ((with_reducible apply lm_sP); exact lm_fpL (by omega); exact rfl)
    | ((with_reducible apply lm_sS); exact lm_ocO (by omega); exact rfl)
    | ((with_reducible apply lm_sA); exact rfl; omega)
    | ((with_reducible apply lm_sJ); exact rfl; omega)
    | ((with_reducible apply lm_sB); (first | exact rfl | exact lm_arB (by omega) | exact lm_arM (by omega)); omega)
    | ((with_reducible apply lm_wA); exact rfl; omega)
    | ((with_reducible apply lm_wJ); exact rfl; omega)
    | ((with_reducible apply lm_wB); (first | exact rfl | exact lm_arB (by omega) | exact lm_arM (by omega)); omega)
    | ((with_reducible apply lm_sAl); (first | exact rfl | exact lm_arB (by omega) | exact lm_arM (by omega)); omega)
    | ((with_reducible apply lm_iW); decide))
      refine lm_sIz rfl ?_
      simp only [Nat.reduceDiv, Nat.reduceMod]
      rw [lm_u_ne (by decide), g3, hb]
      unfold ln_nk at fin
      by_cases c : s < 6
      · rw [if_pos c] at fin
        unfold lm_sk
        rw [decide_eq_true c]
        exact lm_iF (show ¬ (1 : Int32) = 0 by decide) fin
      · rw [if_neg c] at fin
        unfold lm_sk
        rw [decide_eq_false c]
        exact lm_iT (show (0 : Int32) = 0 by decide) fin
    have e17 : lm_rn (lm_sc xs) (d + 1) lm_m176.2.2.2.2.1 (lm_reg lm_m176.2.2.2.2.2) (17, [(0, .ref 194), (2, .int (Int32.ofNat (s % 6)))], [.int (lm_z (lm_sk s)), .ref 194]) (lm_w m n x) = some (.ok none, lm_w F n x) := by
      clear fin g3 g4 g5 g6 g7 g8 g9 g10 gr f194
      refine lm_e176_17 ?_
      unfold lm_q176_17
      refine lm_sPz rfl rfl hz ?_
      refine lm_sSt (j := 16) rfl b6 rfl ?_
      rw [lm_tab16 _ h6]
      refine lm_sP rfl rfl ?_
      refine lm_sSt (j := 17) rfl b6 rfl ?_
      rw [lm_tab17 _ h6]
      refine lm_sP rfl rfl ?_
      refine lm_sSt (j := 18) rfl b6 rfl ?_
      rw [lm_tab18 _ h6]
      refine lm_sI rfl ?_
      simp only [Nat.reduceDiv, Nat.reduceMod, lm_u_eq]
      refine lm_iW (fun g => absurd ((lm_eq32 (b := 0) (by omega) (by omega)).mp g) (by omega)) ?_
      rw [lm_od (by omega) (by omega), q1]
      refine lm_sP rfl rfl ?_
      refine lm_sSt (j := 18) rfl b6 rfl ?_
      rw [lm_tab18 _ h6]
      refine lm_sI rfl ?_
      simp only [Nat.reduceDiv, Nat.reduceMod, lm_u_eq]
      rw [lm_osu hle]
      refine lm_sP rfl rfl ?_
      refine lm_sSt (j := 19) rfl b6 rfl ?_
      rw [lm_tab19 _ h6]
      refine lm_sP rfl rfl ?_
      refine lm_sSt (j := 20) rfl b6 rfl ?_
      rw [lm_tab20 _ h6]
      refine lm_sP rfl rfl ?_
      refine lm_sI rfl ?_
      simp only [Nat.reduceDiv, Nat.reduceMod, lm_rd, Nat.reduceEqDiff, and_false, and_true, and_self, if_false, if_true, lm_K2, lm_K3, lm_om, lm_oo]
      refine lm_sP rfl rfl ?_
      refine lm_sIz rfl ?_
      simp only [Nat.reduceDiv, Nat.reduceMod, lm_rd, Nat.reduceEqDiff, and_false, and_true, and_self, if_false, if_true]
      rw [hb]
      unfold lm_wk at e123
      by_cases c : s < 6
      · rw [if_pos c, ← eM] at e123
        have ez : lm_z (lm_sk s) = 1 := by unfold lm_sk; rw [decide_eq_true c]; rfl
        exact lm_iF (show ¬ lm_z (lm_sk s) = 0 by rw [ez]; decide) e123
      · rw [if_neg c, ← eM] at e123
        have ez : lm_z (lm_sk s) = 0 := by unfold lm_sk; rw [decide_eq_false c]; rfl
        refine lm_iT (show lm_z (lm_sk s) = 0 from ez) ?_
        refine lm_sI rfl ?_
        simp only [Nat.reduceDiv, Nat.reduceMod, lm_rd, Nat.reduceEqDiff, and_false, and_true, and_self, if_false, if_true, lm_K16]
        by_cases c16 : lm_sn s = 16
        · rw [if_pos c16] at e123
          exact lm_neF (by unfold lm_sn at c16; omega) (by omega) (fun g => g c16) e123
        · rw [if_neg c16] at e123
          exact lm_neT (by omega) (by omega) c16 e123
    clear fin e123
    refine lm_cal_of (Y := lm_m176) rfl rfl (lm_e176_0 ?_)
    unfold lm_q176_0
    refine lm_iW (by decide) ?_
    rw [lm_K6, lm_orm (by omega) (by omega)]
    by_cases c : s < 6
    · have ez : lm_z (lm_sk s) = 1 := by unfold lm_sk; rw [decide_eq_true c]; rfl
      rw [ez] at e17
      exact lm_geF (by omega) (by omega) (by omega) e17
    · have ez : lm_z (lm_sk s) = 0 := by unfold lm_sk; rw [decide_eq_false c]; rfl
      rw [ez] at e17
      exact lm_geT (by omega) (by omega) (by omega) e17
  · rw [f194 3 (by decide) (by decide) (by decide), g3, hb]
  · rw [f194 4 (by decide) (by decide) (by decide), g4]
  · rw [f194 5 (by decide) (by decide) (by decide), g5]
  · rw [f194 6 (by decide) (by decide) (by decide), g6]
  · rw [f194 7 (by decide) (by decide) (by decide), g7]
  · rw [f194 8 (by decide) (by decide) (by decide), g8]
  · rw [f194 9 (by decide) (by decide) (by decide), g9]
  · rw [f194 10 (by decide) (by decide) (by decide), g10]
  · rw [← eF, lm_fl_row (by decide), lm_u_ne (by decide), lm_u_ne (by decide), lm_u_eq]
  · rw [← eF, lm_fl_row (by decide), lm_u_ne (by decide), lm_u_eq]
  · rw [← eF, lm_fl_row (by decide), lm_u_eq]
  · rw [← eF, lm_fl_in (by omega)]
    decide
  · rw [← eF, lm_fl_row b, lm_u_row a, lm_u_row a, lm_u_row a, gr q a]
end LMSP
/-! the address -/
def lm_so' (sk : Bool) : Nat := cond sk 19 9
def lm_hd (sk : Bool) (L th tl : Int32) (t : Nat) : Int32 := cond sk (if t < 3 then 0 else if t = 3 then lm_b8 L else if t < 8 then 0 else if t < 12 then lm_ctr4 th (t - 8) else if t < 16 then lm_ctr4 tl (t - 12) else 0) (if t = 0 then lm_b8 L else if t < 5 then lm_ctr4 th (t - 1) else lm_ctr4 tl (t - 5))
def ln_ad (sk : Bool) (L th tl ty u y z : Int32) (t : Nat) : Int32 := if t < lm_so' sk then lm_hd sk L th tl t else if t = lm_so' sk then lm_b8 ty else if t < lm_so' sk + 5 then lm_ctr4 u (t - (lm_so' sk + 1)) else if t < lm_so' sk + 9 then lm_ctr4 y (t - (lm_so' sk + 5)) else lm_ctr4 z (t - (lm_so' sk + 9))
theorem lm_so_b (sk : Bool) : lm_so' sk + 13 ≤ 32 ∧ 9 ≤ lm_so' sk := by cases sk <;> decide
theorem lm_ctr4_b8 (v : Int32) (t : Nat) : lm_b8 (lm_ctr4 v t) = lm_ctr4 v t := by
  unfold lm_ctr4
  by_cases c0 : t = 0
  · rw [if_pos c0, lm_b8b8]
  · rw [if_neg c0]
    by_cases c1 : t = 1
    · rw [if_pos c1, lm_b8b8]
    · rw [if_neg c1]
      by_cases c2 : t = 2
      · rw [if_pos c2, lm_b8b8]
      · rw [if_neg c2, lm_b8b8]
theorem lm_pt_at {m : lm_MI} {q a t : Nat} {v : Int32} : lm_pt m q a v q t = if a ≤ t ∧ t < a + 4 then lm_ctr4 v (t - a) else m q t := by
  unfold lm_pt lm_ctr4
  by_cases c : a ≤ t ∧ t < a + 4
  · rw [if_pos c]
    have e : t = a ∨ t = a + 1 ∨ t = a + 2 ∨ t = a + 3 := by omega
    rcases e with e | e | e | e
    · rw [e, lm_u_ne (by omega), lm_u_ne (by omega), lm_u_ne (by omega), lm_u_eq, Nat.sub_self, if_pos rfl]
    · rw [e, lm_u_ne (by omega), lm_u_ne (by omega), lm_u_eq, Nat.add_sub_cancel_left, if_neg (by decide), if_pos rfl]
    · rw [e, lm_u_ne (by omega), lm_u_eq, Nat.add_sub_cancel_left, if_neg (by decide), if_neg (by decide), if_pos rfl]
    · rw [e, lm_u_eq, Nat.add_sub_cancel_left, if_neg (by decide), if_neg (by decide), if_neg (by decide)]
  · rw [if_neg c, lm_u_ne (by omega), lm_u_ne (by omega), lm_u_ne (by omega), lm_u_ne (by omega)]
/-- the address's head stands -/
def lm_AH (sk : Bool) (L th tl : Int32) (F : Nat → Int32) : Prop := ∀ t, t < lm_so' sk → lm_b8 (F t) = lm_hd sk L th tl t
def lm_A0 (sk : Bool) (F : Nat → Int32) : Prop := sk = true → ∀ t, (t < 3 ∨ (4 ≤ t ∧ t < 8) ∨ (16 ≤ t ∧ t < 19)) → lm_b8 (F t) = 0
theorem lm_AH.a0 {sk : Bool} {L th tl : Int32} {F : Nat → Int32} (h : lm_AH sk L th tl F) : lm_A0 sk F := by
  intro e t ht
  subst e
  have := h t (show t < 19 by omega)
  rw [this]
  show (if t < 3 then 0 else if t = 3 then lm_b8 L else if t < 8 then 0 else if t < 12 then lm_ctr4 th (t - 8) else if t < 16 then lm_ctr4 tl (t - 12) else 0) = (0 : Int32)
  rcases ht with c | c | c
  · rw [if_pos c]
  · rw [if_neg (by omega), if_neg (by omega), if_pos (by omega)]
  · rw [if_neg (by omega), if_neg (by omega), if_neg (by omega), if_neg (by omega), if_neg (by omega)]
theorem lm_ad_AH {sk : Bool} {L th tl ty u y z : Int32} {F : Nat → Int32} (h : ∀ t, t < lm_so' sk + 13 → lm_b8 (F t) = ln_ad sk L th tl ty u y z t) : lm_AH sk L th tl F := fun t ht => by
  rw [h t (by omega)]
  unfold ln_ad
  rw [if_pos ht]
section LMSQ
variable {xs : List Int32} {sc : lm_H} {d s : Nat} {m : lm_MI} {n : lm_ML} {x : lm_H × Nat × Nat} {L th tl ty u y z : Int32}
theorem lm_u263 (hb : lm_b1 (m 194 3) = lm_z (lm_sk s)) (hA : lm_AH (lm_sk s) L th tl (m 195)) : ∃ m', lm_cal sc (d + 2) 263 [.ref 194, .int ty, .int u, .int y, .int z] (lm_w m n x) = some (.ok none, lm_w m' n x) ∧ (∀ q, q ≠ 195 → m' q = m q) ∧ ∀ t, t < lm_so' (lm_sk s) + 13 → lm_b8 (m' 195 t) = ln_ad (lm_sk s) L th tl ty u y z t := by
  have ho := lm_so_b (lm_sk s)
  generalize lm_sk s = sk at *
  refine ⟨lm_pt (lm_pt (lm_pt (lm_u m 195 (lm_so' sk) (lm_b8 ty)) 195 (lm_so' sk + 1) u) 195 (lm_so' sk + 5) y) 195 (lm_so' sk + 9) z, ?_, fun q hq => by rw [lm_pt_row hq, lm_pt_row hq, lm_pt_row hq, lm_u_row hq], fun t ht => ?_⟩
  · have e14 : ∀ w, w = Int32.ofNat (lm_so' sk) → lm_rn sc (d + 1) lm_m263.2.2.2.2.1 (lm_reg lm_m263.2.2.2.2.2) (14, [(0, .ref 194), (1, .int ty), (2, .int u), (3, .int y), (4, .int z)], [.int w]) (lm_w m n x) = some (.ok none, lm_w (lm_pt (lm_pt (lm_pt (lm_u m 195 (lm_so' sk) (lm_b8 ty)) 195 (lm_so' sk + 1) u) 195 (lm_so' sk + 5) y) 195 (lm_so' sk + 9) z) n x) := by
      intro w hw
      subst hw
      refine lm_e263_14 ?_
      unfold lm_q263_14
      rw [lm_K1, lm_K5, lm_K9, lm_oo, lm_oo, lm_oo]
      repeat (first
    | ((with_reducible apply lm_sI); exact rfl)
    | ((with_reducible apply lm_sR); exact rfl)
    | ((with_reducible apply lm_sS); exact rfl; exact rfl)
    | ((with_reducible apply lm_sL); exact rfl)
    | ((with_reducible apply lm_sP); exact rfl; exact rfl)
    | ((with_reducible apply lm_sPL); exact rfl; exact rfl)
    | ((with_reducible apply lm_sAA); exact rfl; exact rfl)
    | ((with_reducible apply lm_sA); (first | exact rfl | assumption); omega)
    | ((with_reducible apply lm_sJ); (first | exact rfl | assumption); omega)
    | ((with_reducible apply lm_sB); (first | exact rfl | assumption); omega)
    | ((with_reducible apply lm_wA); (first | exact rfl | assumption); omega)
    | ((with_reducible apply lm_wJ); (first | exact rfl | assumption); omega)
    | ((with_reducible apply lm_wB); (first | exact rfl | assumption); omega)
    | ((with_reducible apply lm_sAl); (first | exact rfl | assumption); omega)
    | ((with_reducible apply lm_iW); decide))
      refine lm_cV (lm_u131 (d := d) (k := 32) rfl (by omega)) ?_
      repeat (first
    | ((with_reducible apply lm_sI); exact rfl)
    | ((with_reducible apply lm_sR); exact rfl)
    | ((with_reducible apply lm_sS); exact rfl; exact rfl)
    | ((with_reducible apply lm_sL); exact rfl)
    | ((with_reducible apply lm_sP); exact rfl; exact rfl)
    | ((with_reducible apply lm_sPL); exact rfl; exact rfl)
    | ((with_reducible apply lm_sAA); exact rfl; exact rfl)
    | ((with_reducible apply lm_sA); (first | exact rfl | assumption); omega)
    | ((with_reducible apply lm_sJ); (first | exact rfl | assumption); omega)
    | ((with_reducible apply lm_sB); (first | exact rfl | assumption); omega)
    | ((with_reducible apply lm_wA); (first | exact rfl | assumption); omega)
    | ((with_reducible apply lm_wJ); (first | exact rfl | assumption); omega)
    | ((with_reducible apply lm_wB); (first | exact rfl | assumption); omega)
    | ((with_reducible apply lm_sAl); (first | exact rfl | assumption); omega)
    | ((with_reducible apply lm_iW); decide))
      refine lm_cV (lm_u131 (d := d) (k := 32) rfl (by omega)) ?_
      repeat (first
    | ((with_reducible apply lm_sI); exact rfl)
    | ((with_reducible apply lm_sR); exact rfl)
    | ((with_reducible apply lm_sS); exact rfl; exact rfl)
    | ((with_reducible apply lm_sL); exact rfl)
    | ((with_reducible apply lm_sP); exact rfl; exact rfl)
    | ((with_reducible apply lm_sPL); exact rfl; exact rfl)
    | ((with_reducible apply lm_sAA); exact rfl; exact rfl)
    | ((with_reducible apply lm_sA); (first | exact rfl | assumption); omega)
    | ((with_reducible apply lm_sJ); (first | exact rfl | assumption); omega)
    | ((with_reducible apply lm_sB); (first | exact rfl | assumption); omega)
    | ((with_reducible apply lm_wA); (first | exact rfl | assumption); omega)
    | ((with_reducible apply lm_wJ); (first | exact rfl | assumption); omega)
    | ((with_reducible apply lm_wB); (first | exact rfl | assumption); omega)
    | ((with_reducible apply lm_sAl); (first | exact rfl | assumption); omega)
    | ((with_reducible apply lm_iW); decide))
      exact lm_cV (lm_u131 (d := d) (k := 32) rfl (by omega)) rfl
    refine lm_cal_of (Y := lm_m263) rfl rfl (lm_e263_0 ?_)
    unfold lm_q263_0
    refine lm_sIz rfl ?_
    simp only [Nat.reduceDiv, Nat.reduceMod]
    rw [hb]
    cases sk with
    | true => exact lm_iF (show ¬ (1 : Int32) = 0 by decide) (e14 _ rfl)
    | false => exact lm_iT (show (0 : Int32) = 0 by decide) (e14 _ rfl)
  · unfold ln_ad
    rw [lm_pt_at]
    by_cases c4 : lm_so' sk + 9 ≤ t ∧ t < lm_so' sk + 9 + 4
    · rw [if_pos c4, if_neg (by omega), if_neg (by omega), if_neg (by omega), if_neg (by omega), lm_ctr4_b8]
    · rw [if_neg c4, lm_pt_at]
      by_cases c3 : lm_so' sk + 5 ≤ t ∧ t < lm_so' sk + 5 + 4
      · rw [if_pos c3, if_neg (by omega), if_neg (by omega), if_neg (by omega), if_pos (by omega), lm_ctr4_b8]
      · rw [if_neg c3, lm_pt_at]
        by_cases c2 : lm_so' sk + 1 ≤ t ∧ t < lm_so' sk + 1 + 4
        · rw [if_pos c2, if_neg (by omega), if_neg (by omega), if_pos (by omega), lm_ctr4_b8]
        · rw [if_neg c2]
          by_cases c1 : t = lm_so' sk
          · rw [if_neg (by omega), if_pos c1, c1, lm_u_eq, lm_b8b8]
          · rw [lm_u_ne (fun g => c1 g.2), if_pos (by omega)]
            exact hA t (by omega)
theorem lm_u193 {T : Int64} (hb : lm_b1 (m 194 3) = lm_z (lm_sk s)) (hA : lm_A0 (lm_sk s) (m 195)) : ∃ m', lm_cal sc (d + 2) 193 [.ref 194, .int L, .long T] (lm_w m n x) = some (.ok none, lm_w m' n x) ∧ (∀ q, q ≠ 195 → m' q = m q) ∧ lm_AH (lm_sk s) L (Int64.toInt32 (lm_uL T (Int32.ofInt 32))) (Int64.toInt32 T) (m' 195) := by
  generalize lm_sk s = sk at *
  generalize ea : cond sk 8 1 = a
  generalize el : cond sk 3 0 = l
  have hal : a ≤ 8 ∧ l ≤ 3 := by subst ea; subst el; cases sk <;> decide
  refine ⟨lm_pt (lm_pt (lm_u m 195 l (lm_b8 L)) 195 a (Int64.toInt32 (lm_uL T (Int32.ofInt 32)))) 195 (a + 4) (Int64.toInt32 T), ?_, fun q hq => by rw [lm_pt_row hq, lm_pt_row hq, lm_u_row hq], fun t ht => ?_⟩
  · have e31 : lm_rn sc (d + 1) lm_m193.2.2.2.2.1 (lm_reg lm_m193.2.2.2.2.2) (31, [(0, .ref 194), (1, .int L), (2, .long T), (4, .int (Int32.ofNat a))], [.int (Int32.ofNat l), .ref 195]) (lm_w m n x) = some (.ok none, lm_w (lm_pt (lm_pt (lm_u m 195 l (lm_b8 L)) 195 a (Int64.toInt32 (lm_uL T (Int32.ofInt 32)))) 195 (a + 4) (Int64.toInt32 T)) n x) := by
      refine lm_e193_31 ?_
      unfold lm_q193_31
      rw [show Int32.ofInt 4 = Int32.ofNat 4 from rfl, lm_oo]
      repeat (first
    | ((with_reducible apply lm_sI); exact rfl)
    | ((with_reducible apply lm_sR); exact rfl)
    | ((with_reducible apply lm_sS); exact rfl; exact rfl)
    | ((with_reducible apply lm_sL); exact rfl)
    | ((with_reducible apply lm_sP); exact rfl; exact rfl)
    | ((with_reducible apply lm_sPL); exact rfl; exact rfl)
    | ((with_reducible apply lm_sAA); exact rfl; exact rfl)
    | ((with_reducible apply lm_sA); (first | exact rfl | assumption); omega)
    | ((with_reducible apply lm_sJ); (first | exact rfl | assumption); omega)
    | ((with_reducible apply lm_sB); (first | exact rfl | assumption); omega)
    | ((with_reducible apply lm_wA); (first | exact rfl | assumption); omega)
    | ((with_reducible apply lm_wJ); (first | exact rfl | assumption); omega)
    | ((with_reducible apply lm_wB); (first | exact rfl | assumption); omega)
    | ((with_reducible apply lm_sAl); (first | exact rfl | assumption); omega)
    | ((with_reducible apply lm_iW); decide))
      refine lm_cV (lm_u131 (d := d) (k := 32) rfl (by omega)) ?_
      repeat (first
    | ((with_reducible apply lm_sI); exact rfl)
    | ((with_reducible apply lm_sR); exact rfl)
    | ((with_reducible apply lm_sS); exact rfl; exact rfl)
    | ((with_reducible apply lm_sL); exact rfl)
    | ((with_reducible apply lm_sP); exact rfl; exact rfl)
    | ((with_reducible apply lm_sPL); exact rfl; exact rfl)
    | ((with_reducible apply lm_sAA); exact rfl; exact rfl)
    | ((with_reducible apply lm_sA); (first | exact rfl | assumption); omega)
    | ((with_reducible apply lm_sJ); (first | exact rfl | assumption); omega)
    | ((with_reducible apply lm_sB); (first | exact rfl | assumption); omega)
    | ((with_reducible apply lm_wA); (first | exact rfl | assumption); omega)
    | ((with_reducible apply lm_wJ); (first | exact rfl | assumption); omega)
    | ((with_reducible apply lm_wB); (first | exact rfl | assumption); omega)
    | ((with_reducible apply lm_sAl); (first | exact rfl | assumption); omega)
    | ((with_reducible apply lm_iW); decide))
      exact lm_cV (lm_u131 (d := d) (k := 32) rfl (by omega)) rfl
    have e13 : lm_rn sc (d + 1) lm_m193.2.2.2.2.1 (lm_reg lm_m193.2.2.2.2.2) (13, [(0, .ref 194), (1, .int L), (2, .long T)], [.int (Int32.ofNat a)]) (lm_w m n x) = some (.ok none, lm_w (lm_pt (lm_pt (lm_u m 195 l (lm_b8 L)) 195 a (Int64.toInt32 (lm_uL T (Int32.ofInt 32)))) 195 (a + 4) (Int64.toInt32 T)) n x) := by
      refine lm_e193_13 ?_
      unfold lm_q193_13
      repeat (first
    | ((with_reducible apply lm_sI); exact rfl)
    | ((with_reducible apply lm_sR); exact rfl)
    | ((with_reducible apply lm_sS); exact rfl; exact rfl)
    | ((with_reducible apply lm_sL); exact rfl)
    | ((with_reducible apply lm_sP); exact rfl; exact rfl)
    | ((with_reducible apply lm_sPL); exact rfl; exact rfl)
    | ((with_reducible apply lm_sAA); exact rfl; exact rfl)
    | ((with_reducible apply lm_sA); (first | exact rfl | assumption); omega)
    | ((with_reducible apply lm_sJ); (first | exact rfl | assumption); omega)
    | ((with_reducible apply lm_sB); (first | exact rfl | assumption); omega)
    | ((with_reducible apply lm_wA); (first | exact rfl | assumption); omega)
    | ((with_reducible apply lm_wJ); (first | exact rfl | assumption); omega)
    | ((with_reducible apply lm_wB); (first | exact rfl | assumption); omega)
    | ((with_reducible apply lm_sAl); (first | exact rfl | assumption); omega)
    | ((with_reducible apply lm_iW); decide))
      refine lm_sIz rfl ?_
      simp only [Nat.reduceDiv, Nat.reduceMod]
      rw [hb]
      subst el
      cases sk with
      | true => exact lm_iF (show ¬ (1 : Int32) = 0 by decide) e31
      | false => exact lm_iT (show (0 : Int32) = 0 by decide) e31
    refine lm_cal_of (Y := lm_m193) rfl rfl (lm_e193_0 ?_)
    unfold lm_q193_0
    refine lm_sIz rfl ?_
    simp only [Nat.reduceDiv, Nat.reduceMod]
    rw [hb]
    subst ea
    cases sk with
    | true => exact lm_iF (show ¬ (1 : Int32) = 0 by decide) e13
    | false => exact lm_iT (show (0 : Int32) = 0 by decide) e13
  · rw [lm_pt_at]
    subst ea
    subst el
    cases sk with
    | true =>
      have ht' : t < 19 := ht
      show lm_b8 (if 8 + 4 ≤ t ∧ t < 8 + 4 + 4 then lm_ctr4 (Int64.toInt32 T) (t - (8 + 4)) else lm_pt (lm_u m 195 3 (lm_b8 L)) 195 8 (Int64.toInt32 (lm_uL T (Int32.ofInt 32))) 195 t) = (if t < 3 then 0 else if t = 3 then lm_b8 L else if t < 8 then 0 else if t < 12 then lm_ctr4 (Int64.toInt32 (lm_uL T (Int32.ofInt 32))) (t - 8) else if t < 16 then lm_ctr4 (Int64.toInt32 T) (t - 12) else 0)
      by_cases c1 : 8 + 4 ≤ t ∧ t < 8 + 4 + 4
      · rw [if_pos c1, if_neg (by omega), if_neg (by omega), if_neg (by omega), if_neg (by omega), if_pos (by omega), lm_ctr4_b8]
      · rw [if_neg c1, lm_pt_at]
        by_cases c2 : 8 ≤ t ∧ t < 8 + 4
        · rw [if_pos c2, if_neg (by omega), if_neg (by omega), if_neg (by omega), if_pos (by omega), lm_ctr4_b8]
        · rw [if_neg c2]
          by_cases c3 : t = 3
          · rw [c3, lm_u_eq, lm_b8b8, if_neg (by decide), if_pos rfl]
          · rw [lm_u_ne (fun g => c3 g.2), hA rfl t (by omega)]
            by_cases c4 : t < 3
            · rw [if_pos c4]
            · rw [if_neg c4, if_neg c3]
              by_cases c5 : t < 8
              · rw [if_pos c5]
              · rw [if_neg c5, if_neg (by omega), if_neg (by omega)]
    | false =>
      have ht' : t < 9 := ht
      show lm_b8 (if 1 + 4 ≤ t ∧ t < 1 + 4 + 4 then lm_ctr4 (Int64.toInt32 T) (t - (1 + 4)) else lm_pt (lm_u m 195 0 (lm_b8 L)) 195 1 (Int64.toInt32 (lm_uL T (Int32.ofInt 32))) 195 t) = (if t = 0 then lm_b8 L else if t < 5 then lm_ctr4 (Int64.toInt32 (lm_uL T (Int32.ofInt 32))) (t - 1) else lm_ctr4 (Int64.toInt32 T) (t - 5))
      by_cases c1 : 1 + 4 ≤ t ∧ t < 1 + 4 + 4
      · rw [if_pos c1, if_neg (by omega), if_neg (by omega), lm_ctr4_b8]
      · rw [if_neg c1, lm_pt_at]
        by_cases c2 : 1 ≤ t ∧ t < 1 + 4
        · rw [if_pos c2, if_neg (by omega), if_pos (by omega), lm_ctr4_b8]
        · have c3 : t = 0 := by omega
          rw [if_neg c2, c3, lm_u_eq, lm_b8b8, if_pos rfl]
end LMSQ
