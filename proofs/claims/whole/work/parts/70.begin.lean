/-! ===== the reference's hashes: begin ===== -/
def lm_dg (k : Nat) : Nat := match k with
  | 1 => 32
  | 2 => 48
  | 3 => 64
  | 4 => 28
  | 5 => 28
  | 6 => 32
  | 7 => 28
  | 8 => 32
  | 9 => 48
  | 10 => 64
  | 11 => 32
  | 12 => 64
  | _ => 28
section LMBG
variable {sc : lm_H} {d k r : Nat} {m : lm_MI} {n : lm_ML} {x : lm_H × Nat × Nat} {σ : lm_S}
theorem lm_u60 (h1 : 1 ≤ k) (h2 : k ≤ 12) : lm_cal sc (d + 1) 60 [.int (Int32.ofNat k)] σ = some (.ok (some (.int (Int32.ofNat (lm_dg k)))), σ) := by
  refine lm_cal_of (Y := lm_m60) rfl rfl (lm_e60_0 ?_)
  unfold lm_q60_0
  match k, h1, h2 with
  | 1, _, _ =>
    rw [if_neg (by decide)]
    refine lm_e60_64 ?_
    unfold lm_q60_64
    exact rfl
  | 2, _, _ =>
    rw [if_neg (by decide)]
    refine lm_e60_67 ?_
    unfold lm_q60_67
    exact rfl
  | 3, _, _ =>
    rw [if_neg (by decide)]
    refine lm_e60_70 ?_
    unfold lm_q60_70
    exact rfl
  | 4, _, _ =>
    rw [if_neg (by decide)]
    refine lm_e60_73 ?_
    unfold lm_q60_73
    exact rfl
  | 5, _, _ =>
    rw [if_neg (by decide)]
    refine lm_e60_73 ?_
    unfold lm_q60_73
    exact rfl
  | 6, _, _ =>
    rw [if_neg (by decide)]
    refine lm_e60_64 ?_
    unfold lm_q60_64
    exact rfl
  | 7, _, _ =>
    rw [if_neg (by decide)]
    refine lm_e60_73 ?_
    unfold lm_q60_73
    exact rfl
  | 8, _, _ =>
    rw [if_neg (by decide)]
    refine lm_e60_64 ?_
    unfold lm_q60_64
    exact rfl
  | 9, _, _ =>
    rw [if_neg (by decide)]
    refine lm_e60_67 ?_
    unfold lm_q60_67
    exact rfl
  | 10, _, _ =>
    rw [if_neg (by decide)]
    refine lm_e60_70 ?_
    unfold lm_q60_70
    exact rfl
  | 11, _, _ =>
    rw [if_neg (by decide)]
    refine lm_e60_64 ?_
    unfold lm_q60_64
    exact rfl
  | 12, _, _ =>
    rw [if_neg (by decide)]
    refine lm_e60_70 ?_
    unfold lm_q60_70
    exact rfl
theorem lm_u146 (h2 : k ≤ 12) : lm_cal sc (d + 1) 146 [.int (Int32.ofNat k)] σ = some (.ok (some (.int (Int32.ofNat (if k = 1 ∨ k = 4 then 64 else 128)))), σ) := by
  refine lm_cal_of (Y := lm_m146) rfl rfl (lm_e146_0 ?_)
  unfold lm_q146_0
  rw [lm_K1, lm_K4]
  by_cases c1 : k = 1
  · rw [if_pos (Or.inl c1)]
    refine lm_eqT (by omega) (by omega) c1 ?_
    refine lm_e146_10 ?_
    unfold lm_q146_10
    exact rfl
  · refine lm_eqF (by omega) (by omega) c1 ?_
    by_cases c4 : k = 4
    · rw [if_pos (Or.inr c4)]
      refine lm_neF (by omega) (by omega) (fun g => g c4) ?_
      refine lm_e146_10 ?_
      unfold lm_q146_10
      exact rfl
    · rw [if_neg (fun g => g.elim c1 c4)]
      exact lm_neT (by omega) (by omega) c4 rfl
def lm_rate (k : Nat) : Nat := if k = 11 then 168 else if k = 12 then 136 else if k ≤ 6 then (if k = 1 ∨ k = 4 then 64 else 128) else 200 - 2 * lm_dg k
/-- how a state of SHA-2 begins: roots, the two named starts -/
def lm_ini (R S4 S6 : Nat → Int64) (k i : Nat) : Int64 := if k = 1 then lm_uL (R i) (Int32.ofInt 32) else if k = 4 then R (8 + i) &&& Int64.ofNat 4294967295 else if k = 2 then R (8 + i) else if k = 5 then S4 i else if k = 6 then S6 i else R i
def lm_st0' (R S4 S6 : Nat → Int64) (k : Nat) (J : Nat → Int64) (i : Nat) : Int64 := if i < 25 then (if k ≤ 6 ∧ i < 8 then lm_ini R S4 S6 k i else Int64.ofNat 0) else J i
theorem lm_dg_le (k : Nat) : 28 ≤ lm_dg k ∧ lm_dg k ≤ 64 := by
  unfold lm_dg
  split <;> decide
theorem lm_kr_rate (h2 : k ≤ 12) : lm_kr k (lm_rate k) := by
  have h := lm_dg_le k
  refine ⟨h2, ?_, ?_⟩
  · unfold lm_rate
    split
    · omega
    · split
      · omega
      · split
        · split <;> omega
        · omega
  · intro h6
    unfold lm_rate
    rw [if_neg (by omega), if_neg (by omega), if_pos h6]
    split
    · exact Or.inl rfl
    · exact Or.inr rfl
theorem lm_rate_pos (k : Nat) : 64 ≤ lm_rate k := by
  have h := lm_dg_le k
  unfold lm_rate
  split
  · omega
  · split
    · omega
    · split
      · split <;> omega
      · omega
/-- the first eight words -/
theorem lm_l61b (h1 : 1 ≤ k) (h6 : k ≤ 6) : ∀ j t (n1 : lm_ML), t + j = 8 → (n1 215 = n 215 ∧ n1 217 = n 217 ∧ n1 218 = n 218) → lm_rn sc d lm_m61.2.2.2.2.1 (lm_reg lm_m61.2.2.2.2.2) (89, [(0, .ref 203), (1, .int (Int32.ofNat k)), (2, .int (Int32.ofNat t))], []) (lm_w m n1 x) = some (.ok none, lm_w m (lm_fil n1 223 t 8 (lm_ini (n 215) (n 217) (n 218) k)) x) := by
  intro j
  induction j with
  | zero =>
    intro t n1 ht hn
    have ht : t = 8 := ht
    subst ht
    refine lm_e61_89 ?_
    unfold lm_q61_89
    rw [lm_K8, lm_fl_nil]
    exact lm_geT (by decide) (by decide) (by decide) rfl
  | succ j ih =>
    intro t n1 ht hn
    have fin : ∀ v, v = lm_ini (n 215) (n 217) (n 218) k t → lm_rn sc d lm_m61.2.2.2.2.1 (lm_reg lm_m61.2.2.2.2.2) (196, [(0, .ref 203), (1, .int (Int32.ofNat k)), (2, .int (Int32.ofNat t))], [.long v, .int (Int32.ofNat t), .ref 223]) (lm_w m n1 x) = some (.ok none, lm_w m (lm_fil n1 223 t 8 (lm_ini (n 215) (n 217) (n 218) k)) x) := by
      intro v hv
      subst hv
      refine lm_e61_196 ?_
      unfold lm_q61_196
      repeat (first
    | ((with_reducible apply lm_sI); exact rfl)
    | ((with_reducible apply lm_sR); exact rfl)
    | ((with_reducible apply lm_sS); exact rfl; exact rfl)
    | ((with_reducible apply lm_sL); exact rfl)
    | ((with_reducible apply lm_sP); exact rfl; exact rfl)
    | ((with_reducible apply lm_sPL); exact rfl; exact rfl)
    | ((with_reducible apply lm_sAA); exact rfl; first | exact rfl | exact lm_roO (by omega) | exact lm_roM (by omega))
    | ((with_reducible apply lm_sI); exact lm_fpL (by omega))
    | ((with_reducible apply lm_sR); exact lm_fpB (by omega))
    | ((with_reducible apply lm_sP); exact lm_fpL (by omega); exact rfl)
    | ((with_reducible apply lm_sS); exact lm_ocO (by omega); exact rfl)
    | ((with_reducible apply lm_sA); exact rfl; omega)
    | ((with_reducible apply lm_sJ); exact rfl; omega)
    | ((with_reducible apply lm_sB); (first | exact rfl | exact lm_arB (by omega) | exact lm_arM (by omega)); omega)
    | ((with_reducible apply lm_wA); exact rfl; omega)
    | ((with_reducible apply lm_wJ); exact rfl; omega)
    | ((with_reducible apply lm_wB); (first | exact rfl | exact lm_arB (by omega) | exact lm_arM (by omega)); omega)
    | ((with_reducible apply lm_sAl); (first | exact rfl | exact lm_arB (by omega) | exact lm_arM (by omega)); omega)
    | ((with_reducible apply lm_iW); decide))
      rw [show Int32.ofNat t + Int32.ofInt 1 = Int32.ofNat (t + 1) from lm_oa t 1]
      refine (ih (t + 1) _ (by omega) ⟨(lm_u_row (by decide)).trans hn.1, (lm_u_row (by decide)).trans hn.2.1, (lm_u_row (by decide)).trans hn.2.2⟩).trans ?_
      refine congrArg (fun z => some (Except.ok none, lm_w m z x)) ?_
      funext q i
      unfold lm_fil lm_u
      by_cases c : q = 223 ∧ i = t
      · rw [if_neg (by omega), if_pos c, if_pos ⟨c.1, by omega, by omega⟩, c.2]
      · by_cases c2 : q = 223 ∧ t + 1 ≤ i ∧ i < 8
        · rw [if_pos c2, if_pos ⟨c2.1, by omega, c2.2.2⟩]
        · rw [if_neg c2, if_neg c, if_neg (by omega)]
    refine lm_e61_89 ?_
    unfold lm_q61_89
    simp only [lm_K8, lm_K7, lm_K1, lm_K4, lm_K2, lm_K5, lm_K6, lm_oo]
    refine lm_geF (by omega) (by omega) (by omega) (lm_geF (by omega) (by omega) (by omega) ?_)
    repeat (first
    | ((with_reducible apply lm_sI); exact rfl)
    | ((with_reducible apply lm_sR); exact rfl)
    | ((with_reducible apply lm_sS); exact rfl; exact rfl)
    | ((with_reducible apply lm_sL); exact rfl)
    | ((with_reducible apply lm_sP); exact rfl; exact rfl)
    | ((with_reducible apply lm_sPL); exact rfl; exact rfl)
    | ((with_reducible apply lm_sAA); exact rfl; first | exact rfl | exact lm_roO (by omega) | exact lm_roM (by omega))
    | ((with_reducible apply lm_sI); exact lm_fpL (by omega))
    | ((with_reducible apply lm_sR); exact lm_fpB (by omega))
    | ((with_reducible apply lm_sP); exact lm_fpL (by omega); exact rfl)
    | ((with_reducible apply lm_sS); exact lm_ocO (by omega); exact rfl)
    | ((with_reducible apply lm_sA); exact rfl; omega)
    | ((with_reducible apply lm_sJ); exact rfl; omega)
    | ((with_reducible apply lm_sB); (first | exact rfl | exact lm_arB (by omega) | exact lm_arM (by omega)); omega)
    | ((with_reducible apply lm_wA); exact rfl; omega)
    | ((with_reducible apply lm_wJ); exact rfl; omega)
    | ((with_reducible apply lm_wB); (first | exact rfl | exact lm_arB (by omega) | exact lm_arM (by omega)); omega)
    | ((with_reducible apply lm_sAl); (first | exact rfl | exact lm_arB (by omega) | exact lm_arM (by omega)); omega)
    | ((with_reducible apply lm_iW); decide))
    by_cases c1 : k = 1
    · refine lm_neF (by omega) (by omega) (fun g => g c1) ?_
      repeat (first
    | ((with_reducible apply lm_sI); exact rfl)
    | ((with_reducible apply lm_sR); exact rfl)
    | ((with_reducible apply lm_sS); exact rfl; exact rfl)
    | ((with_reducible apply lm_sL); exact rfl)
    | ((with_reducible apply lm_sP); exact rfl; exact rfl)
    | ((with_reducible apply lm_sPL); exact rfl; exact rfl)
    | ((with_reducible apply lm_sAA); exact rfl; first | exact rfl | exact lm_roO (by omega) | exact lm_roM (by omega))
    | ((with_reducible apply lm_sI); exact lm_fpL (by omega))
    | ((with_reducible apply lm_sR); exact lm_fpB (by omega))
    | ((with_reducible apply lm_sP); exact lm_fpL (by omega); exact rfl)
    | ((with_reducible apply lm_sS); exact lm_ocO (by omega); exact rfl)
    | ((with_reducible apply lm_sA); exact rfl; omega)
    | ((with_reducible apply lm_sJ); exact rfl; omega)
    | ((with_reducible apply lm_sB); (first | exact rfl | exact lm_arB (by omega) | exact lm_arM (by omega)); omega)
    | ((with_reducible apply lm_wA); exact rfl; omega)
    | ((with_reducible apply lm_wJ); exact rfl; omega)
    | ((with_reducible apply lm_wB); (first | exact rfl | exact lm_arB (by omega) | exact lm_arM (by omega)); omega)
    | ((with_reducible apply lm_sAl); (first | exact rfl | exact lm_arB (by omega) | exact lm_arM (by omega)); omega)
    | ((with_reducible apply lm_iW); decide))
      refine fin _ ?_
      unfold lm_ini
      rw [if_pos c1, hn.1]
    · refine lm_neT (by omega) (by omega) c1 ?_
      by_cases c4 : k = 4
      · refine lm_neF (by omega) (by omega) (fun g => g c4) ?_
        repeat (first
    | ((with_reducible apply lm_sI); exact rfl)
    | ((with_reducible apply lm_sR); exact rfl)
    | ((with_reducible apply lm_sS); exact rfl; exact rfl)
    | ((with_reducible apply lm_sL); exact rfl)
    | ((with_reducible apply lm_sP); exact rfl; exact rfl)
    | ((with_reducible apply lm_sPL); exact rfl; exact rfl)
    | ((with_reducible apply lm_sAA); exact rfl; first | exact rfl | exact lm_roO (by omega) | exact lm_roM (by omega))
    | ((with_reducible apply lm_sI); exact lm_fpL (by omega))
    | ((with_reducible apply lm_sR); exact lm_fpB (by omega))
    | ((with_reducible apply lm_sP); exact lm_fpL (by omega); exact rfl)
    | ((with_reducible apply lm_sS); exact lm_ocO (by omega); exact rfl)
    | ((with_reducible apply lm_sA); exact rfl; omega)
    | ((with_reducible apply lm_sJ); exact rfl; omega)
    | ((with_reducible apply lm_sB); (first | exact rfl | exact lm_arB (by omega) | exact lm_arM (by omega)); omega)
    | ((with_reducible apply lm_wA); exact rfl; omega)
    | ((with_reducible apply lm_wJ); exact rfl; omega)
    | ((with_reducible apply lm_wB); (first | exact rfl | exact lm_arB (by omega) | exact lm_arM (by omega)); omega)
    | ((with_reducible apply lm_sAl); (first | exact rfl | exact lm_arB (by omega) | exact lm_arM (by omega)); omega)
    | ((with_reducible apply lm_iW); decide))
        refine fin _ ?_
        unfold lm_ini
        rw [if_neg c1, if_pos c4, hn.1]
      · refine lm_neT (by omega) (by omega) c4 ?_
        by_cases c2 : k = 2
        · refine lm_neF (by omega) (by omega) (fun g => g c2) ?_
          repeat (first
    | ((with_reducible apply lm_sI); exact rfl)
    | ((with_reducible apply lm_sR); exact rfl)
    | ((with_reducible apply lm_sS); exact rfl; exact rfl)
    | ((with_reducible apply lm_sL); exact rfl)
    | ((with_reducible apply lm_sP); exact rfl; exact rfl)
    | ((with_reducible apply lm_sPL); exact rfl; exact rfl)
    | ((with_reducible apply lm_sAA); exact rfl; first | exact rfl | exact lm_roO (by omega) | exact lm_roM (by omega))
    | ((with_reducible apply lm_sI); exact lm_fpL (by omega))
    | ((with_reducible apply lm_sR); exact lm_fpB (by omega))
    | ((with_reducible apply lm_sP); exact lm_fpL (by omega); exact rfl)
    | ((with_reducible apply lm_sS); exact lm_ocO (by omega); exact rfl)
    | ((with_reducible apply lm_sA); exact rfl; omega)
    | ((with_reducible apply lm_sJ); exact rfl; omega)
    | ((with_reducible apply lm_sB); (first | exact rfl | exact lm_arB (by omega) | exact lm_arM (by omega)); omega)
    | ((with_reducible apply lm_wA); exact rfl; omega)
    | ((with_reducible apply lm_wJ); exact rfl; omega)
    | ((with_reducible apply lm_wB); (first | exact rfl | exact lm_arB (by omega) | exact lm_arM (by omega)); omega)
    | ((with_reducible apply lm_sAl); (first | exact rfl | exact lm_arB (by omega) | exact lm_arM (by omega)); omega)
    | ((with_reducible apply lm_iW); decide))
          refine fin _ ?_
          unfold lm_ini
          rw [if_neg c1, if_neg c4, if_pos c2, hn.1]
        · refine lm_neT (by omega) (by omega) c2 ?_
          by_cases c5 : k = 5
          · refine lm_neF (by omega) (by omega) (fun g => g c5) ?_
            repeat (first
    | ((with_reducible apply lm_sI); exact rfl)
    | ((with_reducible apply lm_sR); exact rfl)
    | ((with_reducible apply lm_sS); exact rfl; exact rfl)
    | ((with_reducible apply lm_sL); exact rfl)
    | ((with_reducible apply lm_sP); exact rfl; exact rfl)
    | ((with_reducible apply lm_sPL); exact rfl; exact rfl)
    | ((with_reducible apply lm_sAA); exact rfl; first | exact rfl | exact lm_roO (by omega) | exact lm_roM (by omega))
    | ((with_reducible apply lm_sI); exact lm_fpL (by omega))
    | ((with_reducible apply lm_sR); exact lm_fpB (by omega))
    | ((with_reducible apply lm_sP); exact lm_fpL (by omega); exact rfl)
    | ((with_reducible apply lm_sS); exact lm_ocO (by omega); exact rfl)
    | ((with_reducible apply lm_sA); exact rfl; omega)
    | ((with_reducible apply lm_sJ); exact rfl; omega)
    | ((with_reducible apply lm_sB); (first | exact rfl | exact lm_arB (by omega) | exact lm_arM (by omega)); omega)
    | ((with_reducible apply lm_wA); exact rfl; omega)
    | ((with_reducible apply lm_wJ); exact rfl; omega)
    | ((with_reducible apply lm_wB); (first | exact rfl | exact lm_arB (by omega) | exact lm_arM (by omega)); omega)
    | ((with_reducible apply lm_sAl); (first | exact rfl | exact lm_arB (by omega) | exact lm_arM (by omega)); omega)
    | ((with_reducible apply lm_iW); decide))
            refine fin _ ?_
            unfold lm_ini
            rw [if_neg c1, if_neg c4, if_neg c2, if_pos c5, hn.2.1]
          · refine lm_neT (by omega) (by omega) c5 ?_
            by_cases c6 : k = 6
            · refine lm_neF (by omega) (by omega) (fun g => g c6) ?_
              repeat (first
    | ((with_reducible apply lm_sI); exact rfl)
    | ((with_reducible apply lm_sR); exact rfl)
    | ((with_reducible apply lm_sS); exact rfl; exact rfl)
    | ((with_reducible apply lm_sL); exact rfl)
    | ((with_reducible apply lm_sP); exact rfl; exact rfl)
    | ((with_reducible apply lm_sPL); exact rfl; exact rfl)
    | ((with_reducible apply lm_sAA); exact rfl; first | exact rfl | exact lm_roO (by omega) | exact lm_roM (by omega))
    | ((with_reducible apply lm_sI); exact lm_fpL (by omega))
    | ((with_reducible apply lm_sR); exact lm_fpB (by omega))
    | ((with_reducible apply lm_sP); exact lm_fpL (by omega); exact rfl)
    | ((with_reducible apply lm_sS); exact lm_ocO (by omega); exact rfl)
    | ((with_reducible apply lm_sA); exact rfl; omega)
    | ((with_reducible apply lm_sJ); exact rfl; omega)
    | ((with_reducible apply lm_sB); (first | exact rfl | exact lm_arB (by omega) | exact lm_arM (by omega)); omega)
    | ((with_reducible apply lm_wA); exact rfl; omega)
    | ((with_reducible apply lm_wJ); exact rfl; omega)
    | ((with_reducible apply lm_wB); (first | exact rfl | exact lm_arB (by omega) | exact lm_arM (by omega)); omega)
    | ((with_reducible apply lm_sAl); (first | exact rfl | exact lm_arB (by omega) | exact lm_arM (by omega)); omega)
    | ((with_reducible apply lm_iW); decide))
              refine fin _ ?_
              unfold lm_ini
              rw [if_neg c1, if_neg c4, if_neg c2, if_neg c5, if_pos c6, hn.2.2]
            · refine lm_neT (by omega) (by omega) c6 ?_
              repeat (first
    | ((with_reducible apply lm_sI); exact rfl)
    | ((with_reducible apply lm_sR); exact rfl)
    | ((with_reducible apply lm_sS); exact rfl; exact rfl)
    | ((with_reducible apply lm_sL); exact rfl)
    | ((with_reducible apply lm_sP); exact rfl; exact rfl)
    | ((with_reducible apply lm_sPL); exact rfl; exact rfl)
    | ((with_reducible apply lm_sAA); exact rfl; first | exact rfl | exact lm_roO (by omega) | exact lm_roM (by omega))
    | ((with_reducible apply lm_sI); exact lm_fpL (by omega))
    | ((with_reducible apply lm_sR); exact lm_fpB (by omega))
    | ((with_reducible apply lm_sP); exact lm_fpL (by omega); exact rfl)
    | ((with_reducible apply lm_sS); exact lm_ocO (by omega); exact rfl)
    | ((with_reducible apply lm_sA); exact rfl; omega)
    | ((with_reducible apply lm_sJ); exact rfl; omega)
    | ((with_reducible apply lm_sB); (first | exact rfl | exact lm_arB (by omega) | exact lm_arM (by omega)); omega)
    | ((with_reducible apply lm_wA); exact rfl; omega)
    | ((with_reducible apply lm_wJ); exact rfl; omega)
    | ((with_reducible apply lm_wB); (first | exact rfl | exact lm_arB (by omega) | exact lm_arM (by omega)); omega)
    | ((with_reducible apply lm_sAl); (first | exact rfl | exact lm_arB (by omega) | exact lm_arM (by omega)); omega)
    | ((with_reducible apply lm_iW); decide))
              refine fin _ ?_
              unfold lm_ini
              rw [if_neg c1, if_neg c4, if_neg c2, if_neg c5, if_neg c6, hn.1]
theorem lm_l61a {r0 : Except Nat lm_R × lm_S} (h1 : 1 ≤ k) (h2 : k ≤ 12) (K : lm_rn sc (d + 1) lm_m61.2.2.2.2.1 (lm_reg lm_m61.2.2.2.2.2) (89, [(0, .ref 203), (1, .int (Int32.ofNat k)), (2, .int (Int32.ofNat 0))], []) (lm_w (lm_u m 203 19 (Int32.ofNat (lm_rate k))) (lm_fil n 223 0 25 fun _ => Int64.ofNat 0) x) = some r0) : ∀ j t, t + j = 25 → lm_rn sc (d + 1) lm_m61.2.2.2.2.1 (lm_reg lm_m61.2.2.2.2.2) (17, [(0, .ref 203), (1, .int (Int32.ofNat k)), (2, .int (Int32.ofNat t))], []) (lm_w m (lm_fil n 223 0 t fun _ => Int64.ofNat 0) x) = some r0 := by
  have fin : ∀ v, v = Int32.ofNat (lm_rate k) → lm_rn sc (d + 1) lm_m61.2.2.2.2.1 (lm_reg lm_m61.2.2.2.2.2) (84, [(0, .ref 203), (1, .int (Int32.ofNat k))], [.int v, .ref 203]) (lm_w m (lm_fil n 223 0 25 fun _ => Int64.ofNat 0) x) = some r0 := by
    intro v hv
    subst hv
    refine lm_e61_84 ?_
    unfold lm_q61_84
    rw [lm_K0]
    repeat (first
    | ((with_reducible apply lm_sI); exact rfl)
    | ((with_reducible apply lm_sR); exact rfl)
    | ((with_reducible apply lm_sS); exact rfl; exact rfl)
    | ((with_reducible apply lm_sL); exact rfl)
    | ((with_reducible apply lm_sP); exact rfl; exact rfl)
    | ((with_reducible apply lm_sPL); exact rfl; exact rfl)
    | ((with_reducible apply lm_sAA); exact rfl; first | exact rfl | exact lm_roO (by omega) | exact lm_roM (by omega))
    | ((with_reducible apply lm_sI); exact lm_fpL (by omega))
    | ((with_reducible apply lm_sR); exact lm_fpB (by omega))
    | ((with_reducible apply lm_sP); exact lm_fpL (by omega); exact rfl)
    | ((with_reducible apply lm_sS); exact lm_ocO (by omega); exact rfl)
    | ((with_reducible apply lm_sA); exact rfl; omega)
    | ((with_reducible apply lm_sJ); exact rfl; omega)
    | ((with_reducible apply lm_sB); (first | exact rfl | exact lm_arB (by omega) | exact lm_arM (by omega)); omega)
    | ((with_reducible apply lm_wA); exact rfl; omega)
    | ((with_reducible apply lm_wJ); exact rfl; omega)
    | ((with_reducible apply lm_wB); (first | exact rfl | exact lm_arB (by omega) | exact lm_arM (by omega)); omega)
    | ((with_reducible apply lm_sAl); (first | exact rfl | exact lm_arB (by omega) | exact lm_arM (by omega)); omega)
    | ((with_reducible apply lm_iW); decide))
    exact K
  have hd := lm_dg_le k
  intro j
  induction j with
  | zero =>
    intro t ht
    have ht : t = 25 := ht
    subst ht
    refine lm_e61_17 ?_
    unfold lm_q61_17
    simp only [lm_K25, lm_K11, lm_K12, lm_K6]
    refine lm_geT (by decide) (by decide) (by decide) ?_
    by_cases c11 : k = 11
    · refine lm_neF (by omega) (by omega) (fun g => g c11) ?_
      refine fin _ ?_
      unfold lm_rate
      rw [if_pos c11]
      rfl
    · refine lm_neT (by omega) (by omega) c11 ?_
      by_cases c12 : k = 12
      · refine lm_neF (by omega) (by omega) (fun g => g c12) ?_
        refine fin _ ?_
        unfold lm_rate
        rw [if_neg c11, if_pos c12]
        rfl
      · refine lm_neT (by omega) (by omega) c12 ?_
        by_cases c6 : k ≤ 6
        · refine lm_leT (by omega) (by omega) c6 ?_
          refine lm_cI (lm_u146 h2) ?_
          refine fin _ ?_
          unfold lm_rate
          rw [if_neg c11, if_neg c12, if_pos c6]
        · refine lm_leF (by omega) (by omega) c6 ?_
          refine lm_cI (lm_u60 h1 h2) ?_
          refine fin _ ?_
          unfold lm_rate
          rw [if_neg c11, if_neg c12, if_neg c6, lm_K200, lm_K2, lm_om, lm_osu (by omega)]
  | succ j ih =>
    intro t ht
    refine lm_e61_17 ?_
    unfold lm_q61_17
    rw [lm_K25]
    refine lm_geF (by omega) (by omega) (by omega) ?_
    repeat (first
    | ((with_reducible apply lm_sI); exact rfl)
    | ((with_reducible apply lm_sR); exact rfl)
    | ((with_reducible apply lm_sS); exact rfl; exact rfl)
    | ((with_reducible apply lm_sL); exact rfl)
    | ((with_reducible apply lm_sP); exact rfl; exact rfl)
    | ((with_reducible apply lm_sPL); exact rfl; exact rfl)
    | ((with_reducible apply lm_sAA); exact rfl; first | exact rfl | exact lm_roO (by omega) | exact lm_roM (by omega))
    | ((with_reducible apply lm_sI); exact lm_fpL (by omega))
    | ((with_reducible apply lm_sR); exact lm_fpB (by omega))
    | ((with_reducible apply lm_sP); exact lm_fpL (by omega); exact rfl)
    | ((with_reducible apply lm_sS); exact lm_ocO (by omega); exact rfl)
    | ((with_reducible apply lm_sA); exact rfl; omega)
    | ((with_reducible apply lm_sJ); exact rfl; omega)
    | ((with_reducible apply lm_sB); (first | exact rfl | exact lm_arB (by omega) | exact lm_arM (by omega)); omega)
    | ((with_reducible apply lm_wA); exact rfl; omega)
    | ((with_reducible apply lm_wJ); exact rfl; omega)
    | ((with_reducible apply lm_wB); (first | exact rfl | exact lm_arB (by omega) | exact lm_arM (by omega)); omega)
    | ((with_reducible apply lm_sAl); (first | exact rfl | exact lm_arB (by omega) | exact lm_arM (by omega)); omega)
    | ((with_reducible apply lm_iW); decide))
    rw [show Int32.ofNat t + Int32.ofInt 1 = Int32.ofNat (t + 1) from lm_oa t 1, show lm_u (lm_fil n 223 0 t fun _ => Int64.ofNat 0) 223 t (Int64.ofNat 0) = _ from lm_fl_step (g := fun _ => Int64.ofNat 0) (Nat.zero_le t)]
    exact ih (t + 1) (by omega)
/-- begin -/
theorem lm_u61 (h1 : 1 ≤ k) (h2 : k ≤ 12) : lm_RH x m n k (lm_rate k) (0, Int64.ofNat 0, lm_st0' (n 215) (n 217) (n 218) k (n 223), m 227) none (lm_cal sc (d + 2) 61 [.ref 203, .int (Int32.ofNat k)] (lm_w m n x)) := by
  have key : ∀ n2 : lm_ML, lm_rn sc (d + 1) lm_m61.2.2.2.2.1 (lm_reg lm_m61.2.2.2.2.2) (89, [(0, .ref 203), (1, .int (Int32.ofNat k)), (2, .int (Int32.ofNat 0))], []) (lm_w (lm_u (lm_u (lm_u m 203 18 (Int32.ofNat k)) 203 20 (Int32.ofInt 0)) 203 19 (Int32.ofNat (lm_rate k))) (lm_fil (lm_u n 203 21 (Int64.ofNat 0)) 223 0 25 fun _ => Int64.ofNat 0) x) = some (.ok none, lm_w (lm_u (lm_u (lm_u m 203 18 (Int32.ofNat k)) 203 20 (Int32.ofInt 0)) 203 19 (Int32.ofNat (lm_rate k))) n2 x) → n2 203 21 = Int64.ofNat 0 → n2 223 = lm_st0' (n 215) (n 217) (n 218) k (n 223) → (∀ q, q ≠ 203 → q ≠ 223 → n2 q = n q) → lm_RH x m n k (lm_rate k) (0, Int64.ofNat 0, lm_st0' (n 215) (n 217) (n 218) k (n 223), m 227) none (lm_cal sc (d + 2) 61 [.ref 203, .int (Int32.ofNat k)] (lm_w m n x)) := by
    intro n2 e g1 g2 g3
    refine ⟨lm_u (lm_u (lm_u m 203 18 (Int32.ofNat k)) 203 20 (Int32.ofInt 0)) 203 19 (Int32.ofNat (lm_rate k)), n2, ?_, ⟨?_, lm_u_eq, ?_, g1, g2, ?_⟩, ?_, ?_, fun q a b _ _ _ => g3 q a b⟩
    · refine lm_cal_of (Y := lm_m61) rfl rfl (lm_e61_0 ?_)
      unfold lm_q61_0
      repeat (first
    | ((with_reducible apply lm_sI); exact rfl)
    | ((with_reducible apply lm_sR); exact rfl)
    | ((with_reducible apply lm_sS); exact rfl; exact rfl)
    | ((with_reducible apply lm_sL); exact rfl)
    | ((with_reducible apply lm_sP); exact rfl; exact rfl)
    | ((with_reducible apply lm_sPL); exact rfl; exact rfl)
    | ((with_reducible apply lm_sAA); exact rfl; first | exact rfl | exact lm_roO (by omega) | exact lm_roM (by omega))
    | ((with_reducible apply lm_sI); exact lm_fpL (by omega))
    | ((with_reducible apply lm_sR); exact lm_fpB (by omega))
    | ((with_reducible apply lm_sP); exact lm_fpL (by omega); exact rfl)
    | ((with_reducible apply lm_sS); exact lm_ocO (by omega); exact rfl)
    | ((with_reducible apply lm_sA); exact rfl; omega)
    | ((with_reducible apply lm_sJ); exact rfl; omega)
    | ((with_reducible apply lm_sB); (first | exact rfl | exact lm_arB (by omega) | exact lm_arM (by omega)); omega)
    | ((with_reducible apply lm_wA); exact rfl; omega)
    | ((with_reducible apply lm_wJ); exact rfl; omega)
    | ((with_reducible apply lm_wB); (first | exact rfl | exact lm_arB (by omega) | exact lm_arM (by omega)); omega)
    | ((with_reducible apply lm_sAl); (first | exact rfl | exact lm_arB (by omega) | exact lm_arM (by omega)); omega)
    | ((with_reducible apply lm_iW); decide))
      rw [lm_K0]
      have h := lm_l61a (sc := sc) (d := d) (m := lm_u (lm_u m 203 18 (Int32.ofNat k)) 203 20 (Int32.ofInt 0)) (n := lm_u n 203 21 (Int64.ofNat 0)) (x := x) h1 h2 e 25 0 rfl
      rw [lm_fl_nil] at h
      exact h
    · rw [lm_u_ne (by decide), lm_u_ne (by decide), lm_u_eq]
    · rw [lm_u_ne (by decide), lm_u_eq]
      rfl
    · rw [lm_u_row (by decide), lm_u_row (by decide), lm_u_row (by decide)]
    · intro q a b
      rw [lm_u_row a, lm_u_row a, lm_u_row a]
    · intro j a b c
      rw [lm_u_ne (fun g => b g.2), lm_u_ne (fun g => c g.2), lm_u_ne (fun g => a g.2)]
  by_cases c6 : k ≤ 6
  · refine key _ (lm_l61b (n := n) h1 c6 8 0 (lm_fil (lm_u n 203 21 (Int64.ofNat 0)) 223 0 25 fun _ => Int64.ofNat 0) rfl ⟨?_, ?_, ?_⟩) ?_ ?_ ?_
    · rw [lm_fl_row (by decide), lm_u_row (by decide)]
    · rw [lm_fl_row (by decide), lm_u_row (by decide)]
    · rw [lm_fl_row (by decide), lm_u_row (by decide)]
    · rw [lm_fl_row (by decide), lm_fl_row (by decide), lm_u_eq]
    · funext i
      unfold lm_st0'
      rw [lm_rf, lm_rf]
      by_cases c : i < 25
      · rw [if_pos c]
        by_cases c8 : i < 8
        · rw [if_pos ⟨rfl, by omega, c8⟩, if_pos ⟨c6, c8⟩]
        · rw [if_neg (fun g => c8 g.2.2), if_pos ⟨rfl, by omega, c⟩, if_neg (fun g => c8 g.2)]
      · rw [if_neg (by omega), if_neg (by omega), if_neg c, lm_u_row (by decide)]
    · intro q a b
      rw [lm_fl_row b, lm_fl_row b, lm_u_row a]
  · refine key (lm_fil (lm_u n 203 21 (Int64.ofNat 0)) 223 0 25 fun _ => Int64.ofNat 0) ?_ ?_ ?_ ?_
    · refine lm_e61_89 ?_
      unfold lm_q61_89
      rw [lm_K8, lm_K7]
      exact lm_geF (by decide) (by decide) (by decide) (lm_geT (by omega) (by omega) (by omega) rfl)
    · rw [lm_fl_row (by decide), lm_u_eq]
    · funext i
      unfold lm_st0'
      rw [lm_rf]
      by_cases c : i < 25
      · rw [if_pos ⟨rfl, by omega, c⟩, if_pos c, if_neg (fun g => c6 g.1)]
      · rw [if_neg (fun g => c g.2.2), if_neg c, lm_u_row (by decide)]
    · intro q a b
      rw [lm_fl_row b, lm_u_row a]
end LMBG
