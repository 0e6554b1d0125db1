/-! ===== the class's hashes: start ===== -/
/-- the j-th static array of longs -/
def lm_lst (j : Nat) : List Int64 := match (lm_sc [])[j]? with
  | some (.inr (.inl ys)) => ys
  | _ => []
theorem lm_ls_eq (ws : List Int64) : ws = (List.range ws.length).map (fun i => ws.getD i 0) := by
  apply List.ext_getElem?
  intro i
  by_cases h : i < ws.length
  · rw [List.getElem?_map, List.getElem?_range h, List.getElem?_eq_getElem h]
    show some _ = some (ws.getD i 0)
    rw [List.getD_eq_getElem?_getD, List.getElem?_eq_getElem h]
    rfl
  · rw [List.getElem?_eq_none (by omega), List.getElem?_eq_none (by rw [List.length_map, List.length_range]; omega)]
theorem lm_sCpS {β : Type} {sc : lm_H} {m : lm_MI} {n : lm_ML} {x : lm_H × Nat × Nat} {r : Option (Except Nat β × lm_S)} {q a : Nat} {f : Unit → lm_M β} {p b j w : Nat} {ws : List Int64} (h1 : sc[p]? = some (.inr (.inl ws))) (h2 : lm_alW 362 [] q = some w) (hl : ws.length ≤ 1000) (ha : a + j ≤ ws.length) (hb : b + j ≤ w) (k : f () (lm_w m (lm_fil n q b (b + j) (fun i => ws.getD (i - b + a) 0)) x) = r) : lm_bind (lm_copy sc (lm_B + p) (Int32.ofNat a) q (Int32.ofNat b) (Int32.ofNat j)) f (lm_w m n x) = r := by
  have g2 := lm_al_le h2
  have e2 := lm_shp_al h2
  rw [← k]
  refine lm_bd_ok ?_
  unfold lm_copy lm_w lm_W
  dsimp only
  rw [if_pos ⟨lm_q_lt e2, (lm_nn (a := a) (by omega)).1, (lm_nn (a := b) (by omega)).1, (lm_nn (a := j) (by omega)).1⟩, lm_cell_s, h1, lm_mk_get e2]
  show (if _ ≤ ws.length ∧ _ ≤ ((List.range w).map _).length then some (Except.ok (), (_, _)) else none) = _
  rw [(lm_nn (a := a) (by omega)).2, (lm_nn (a := b) (by omega)).2, (lm_nn (a := j) (by omega)).2, lm_rg_len, if_pos ⟨ha, hb⟩]
  have e3 : lm_lay ((List.range w).map fun i => n q i) ws a b j = (List.range w).map fun i => if b ≤ i ∧ i < b + j then ws.getD (i - b + a) 0 else n q i := by
    conv => lhs; rw [lm_ls_eq ws]
    exact lm_rg_lay _ _ ha hb
  rw [lm_mk_set (m' := m) (n' := lm_fil n q b (b + j) (fun i => ws.getD (i - b + a) 0)) e2 ?_ (fun _ _ => rfl) (fun p hp => lm_fl_row hp)]
  refine Eq.trans ?_ (congrArg (fun l => (Sum.inr (Sum.inl l) : lm_C)) e3.symm)
  show (Sum.inr (Sum.inl _) : lm_C) = _
  congr 3
  funext i
  show (if q = q ∧ b ≤ i ∧ i < b + j then _ else n q i) = if b ≤ i ∧ i < b + j then _ else n q i
  by_cases e : b ≤ i ∧ i < b + j
  · rw [if_pos ⟨rfl, e⟩, if_pos e]
  · rw [if_neg (fun g => e g.2), if_neg e]
section LMSR
variable {xs : List Int32} {d k : Nat} {m : lm_MI} {n : lm_ML} {x : lm_H × Nat × Nat}
theorem lm_l274 {v : Int64} : ∀ j t, t + j = 25 → lm_rn (lm_sc xs) d lm_m274.2.2.2.2.1 (lm_reg lm_m274.2.2.2.2.2) (6, [(0, .ref 8), (1, .long v), (3, .int (Int32.ofNat t)), (4, .int (Int32.ofNat 25))], []) (lm_w m (lm_fil n 8 0 t fun _ => v) x) = some (.ok none, lm_w m (lm_fil n 8 0 25 fun _ => v) x) := by
  intro j
  induction j with
  | zero =>
    intro t ht
    have ht : t = 25 := ht
    subst ht
    refine lm_e274_6 ?_
    unfold lm_q274_6
    exact lm_geT (by decide) (by decide) (by decide) rfl
  | succ j ih =>
    intro t ht
    refine lm_e274_6 ?_
    unfold lm_q274_6
    refine lm_geF (by omega) (by omega) (by omega) ?_
    repeat (first
    | ((with_reducible apply lm_sI); exact rfl)
    | ((with_reducible apply lm_sR); exact rfl)
    | ((with_reducible apply lm_sS); exact rfl; exact rfl)
    | ((with_reducible apply lm_sL); exact rfl)
    | ((with_reducible apply lm_sP); exact rfl; exact rfl)
    | ((with_reducible apply lm_sPL); exact rfl; exact rfl)
    | ((with_reducible apply lm_sAA); exact rfl; first | exact rfl | exact lm_roO (by omega) | exact lm_roM (by omega))
    | ((with_reducible apply lm_sI); exact lm_fpL (by omega))
    | ((with_reducible apply lm_sR); exact lm_fpB (by omega))
    | ((with_reducible apply lm_sP); exact lm_fpL (by omega); exact rfl)
    | ((with_reducible apply lm_sS); exact lm_ocO (by omega); exact rfl)
    | ((with_reducible apply lm_sA); exact rfl; omega)
    | ((with_reducible apply lm_sJ); exact rfl; omega)
    | ((with_reducible apply lm_sB); (first | exact rfl | exact lm_arB (by omega) | exact lm_arM (by omega)); omega)
    | ((with_reducible apply lm_wA); exact rfl; omega)
    | ((with_reducible apply lm_wJ); exact rfl; omega)
    | ((with_reducible apply lm_wB); (first | exact rfl | exact lm_arB (by omega) | exact lm_arM (by omega)); omega)
    | ((with_reducible apply lm_sAl); (first | exact rfl | exact lm_arB (by omega) | exact lm_arM (by omega)); omega)
    | ((with_reducible apply lm_iW); decide))
    rw [show Int32.ofNat t + Int32.ofInt 1 = Int32.ofNat (t + 1) from lm_oa t 1, lm_fl_step (g := fun _ => v) (by omega)]
    exact ih (t + 1) (by omega)
theorem lm_u274 {v : Int64} : lm_cal (lm_sc xs) (d + 1) 274 [.ref 8, .long v] (lm_w m n x) = some (.ok none, lm_w m (lm_fil n 8 0 25 fun _ => v) x) := by
  refine lm_cal_of (Y := lm_m274) rfl rfl (lm_e274_0 ?_)
  unfold lm_q274_0
  refine lm_sAlL rfl ?_
  have h := lm_l274 (xs := xs) (d := d) (m := m) (n := n) (x := x) (v := v) 25 0 rfl
  rw [lm_fl_nil] at h
  exact h
theorem lm_u275_5 : lm_cal (lm_sc xs) (d + 1) 275 [.ref 5] (lm_w m n x) = some (.ok none, lm_w (lm_u m 5 2 (Int32.ofInt 0)) (lm_u n 5 3 (Int64.ofNat 0)) x) := by
  refine lm_cal_of (Y := lm_m275) rfl rfl (lm_e275_0 ?_)
  unfold lm_q275_0
  repeat (first
    | ((with_reducible apply lm_sI); exact rfl)
    | ((with_reducible apply lm_sR); exact rfl)
    | ((with_reducible apply lm_sS); exact rfl; exact rfl)
    | ((with_reducible apply lm_sL); exact rfl)
    | ((with_reducible apply lm_sP); exact rfl; exact rfl)
    | ((with_reducible apply lm_sPL); exact rfl; exact rfl)
    | ((with_reducible apply lm_sAA); exact rfl; first | exact rfl | exact lm_roO (by omega) | exact lm_roM (by omega))
    | ((with_reducible apply lm_sI); exact lm_fpL (by omega))
    | ((with_reducible apply lm_sR); exact lm_fpB (by omega))
    | ((with_reducible apply lm_sP); exact lm_fpL (by omega); exact rfl)
    | ((with_reducible apply lm_sS); exact lm_ocO (by omega); exact rfl)
    | ((with_reducible apply lm_sA); exact rfl; omega)
    | ((with_reducible apply lm_sJ); exact rfl; omega)
    | ((with_reducible apply lm_sB); (first | exact rfl | exact lm_arB (by omega) | exact lm_arM (by omega)); omega)
    | ((with_reducible apply lm_wA); exact rfl; omega)
    | ((with_reducible apply lm_wJ); exact rfl; omega)
    | ((with_reducible apply lm_wB); (first | exact rfl | exact lm_arB (by omega) | exact lm_arM (by omega)); omega)
    | ((with_reducible apply lm_sAl); (first | exact rfl | exact lm_arB (by omega) | exact lm_arM (by omega)); omega)
    | ((with_reducible apply lm_iW); decide))
  exact rfl
theorem lm_u275_11 : lm_cal (lm_sc xs) (d + 1) 275 [.ref 11] (lm_w m n x) = some (.ok none, lm_w (lm_u m 11 2 (Int32.ofInt 0)) (lm_u n 11 3 (Int64.ofNat 0)) x) := by
  refine lm_cal_of (Y := lm_m275) rfl rfl (lm_e275_0 ?_)
  unfold lm_q275_0
  repeat (first
    | ((with_reducible apply lm_sI); exact rfl)
    | ((with_reducible apply lm_sR); exact rfl)
    | ((with_reducible apply lm_sS); exact rfl; exact rfl)
    | ((with_reducible apply lm_sL); exact rfl)
    | ((with_reducible apply lm_sP); exact rfl; exact rfl)
    | ((with_reducible apply lm_sPL); exact rfl; exact rfl)
    | ((with_reducible apply lm_sAA); exact rfl; first | exact rfl | exact lm_roO (by omega) | exact lm_roM (by omega))
    | ((with_reducible apply lm_sI); exact lm_fpL (by omega))
    | ((with_reducible apply lm_sR); exact lm_fpB (by omega))
    | ((with_reducible apply lm_sP); exact lm_fpL (by omega); exact rfl)
    | ((with_reducible apply lm_sS); exact lm_ocO (by omega); exact rfl)
    | ((with_reducible apply lm_sA); exact rfl; omega)
    | ((with_reducible apply lm_sJ); exact rfl; omega)
    | ((with_reducible apply lm_sB); (first | exact rfl | exact lm_arB (by omega) | exact lm_arM (by omega)); omega)
    | ((with_reducible apply lm_wA); exact rfl; omega)
    | ((with_reducible apply lm_wJ); exact rfl; omega)
    | ((with_reducible apply lm_wB); (first | exact rfl | exact lm_arB (by omega) | exact lm_arM (by omega)); omega)
    | ((with_reducible apply lm_sAl); (first | exact rfl | exact lm_arB (by omega) | exact lm_arM (by omega)); omega)
    | ((with_reducible apply lm_iW); decide))
  exact rfl
theorem lm_u275_17 : lm_cal (lm_sc xs) (d + 1) 275 [.ref 17] (lm_w m n x) = some (.ok none, lm_w (lm_u m 17 2 (Int32.ofInt 0)) (lm_u n 17 3 (Int64.ofNat 0)) x) := by
  refine lm_cal_of (Y := lm_m275) rfl rfl (lm_e275_0 ?_)
  unfold lm_q275_0
  repeat (first
    | ((with_reducible apply lm_sI); exact rfl)
    | ((with_reducible apply lm_sR); exact rfl)
    | ((with_reducible apply lm_sS); exact rfl; exact rfl)
    | ((with_reducible apply lm_sL); exact rfl)
    | ((with_reducible apply lm_sP); exact rfl; exact rfl)
    | ((with_reducible apply lm_sPL); exact rfl; exact rfl)
    | ((with_reducible apply lm_sAA); exact rfl; first | exact rfl | exact lm_roO (by omega) | exact lm_roM (by omega))
    | ((with_reducible apply lm_sI); exact lm_fpL (by omega))
    | ((with_reducible apply lm_sR); exact lm_fpB (by omega))
    | ((with_reducible apply lm_sP); exact lm_fpL (by omega); exact rfl)
    | ((with_reducible apply lm_sS); exact lm_ocO (by omega); exact rfl)
    | ((with_reducible apply lm_sA); exact rfl; omega)
    | ((with_reducible apply lm_sJ); exact rfl; omega)
    | ((with_reducible apply lm_sB); (first | exact rfl | exact lm_arB (by omega) | exact lm_arM (by omega)); omega)
    | ((with_reducible apply lm_wA); exact rfl; omega)
    | ((with_reducible apply lm_wJ); exact rfl; omega)
    | ((with_reducible apply lm_wB); (first | exact rfl | exact lm_arB (by omega) | exact lm_arM (by omega)); omega)
    | ((with_reducible apply lm_sAl); (first | exact rfl | exact lm_arB (by omega) | exact lm_arM (by omega)); omega)
    | ((with_reducible apply lm_iW); decide))
  exact rfl
def lm_sfx (k : Nat) : Int32 := if k ≤ 10 then Int32.ofInt 6 else Int32.ofInt 31
theorem lm_sSI {β : Type} {σ : lm_S} {f : Int32 → lm_M β} {r : Option (Except Nat β × lm_S)} (h1 : 1 ≤ k) (h2 : k ≤ 12) (K : f (Int32.ofNat (lm_dg k)) σ = r) : lm_bind (lm_iald (lm_sc xs) (lm_B + 1) (Int32.ofNat k)) f σ = r := by
  match k, h1, h2 with
  | 1, _, _ => exact lm_sSt rfl rfl rfl K
  | 2, _, _ => exact lm_sSt rfl rfl rfl K
  | 3, _, _ => exact lm_sSt rfl rfl rfl K
  | 4, _, _ => exact lm_sSt rfl rfl rfl K
  | 5, _, _ => exact lm_sSt rfl rfl rfl K
  | 6, _, _ => exact lm_sSt rfl rfl rfl K
  | 7, _, _ => exact lm_sSt rfl rfl rfl K
  | 8, _, _ => exact lm_sSt rfl rfl rfl K
  | 9, _, _ => exact lm_sSt rfl rfl rfl K
  | 10, _, _ => exact lm_sSt rfl rfl rfl K
  | 11, _, _ => exact lm_sSt rfl rfl rfl K
  | 12, _, _ => exact lm_sSt rfl rfl rfl K
theorem lm_u200 (h1 : 6 < k) (h2 : k ≤ 12) : lm_cal (lm_sc xs) (d + 2) 200 [.ref 5, .int (Int32.ofNat k)] (lm_w m n x) = some (.ok none, lm_w (lm_u (lm_u (lm_u m 5 1 (Int32.ofNat (lm_rate k))) 5 10 (lm_sfx k)) 5 2 (Int32.ofInt 0)) (lm_u (lm_fil n 8 0 25 fun _ => Int64.ofNat 0) 5 3 (Int64.ofNat 0)) x) := by
  have tail : lm_rn (lm_sc xs) (d + 1) lm_m200.2.2.2.2.1 (lm_reg lm_m200.2.2.2.2.2) (63, [(0, .ref 5)], [.int (lm_sfx k), .ref 5]) (lm_w (lm_u m 5 1 (Int32.ofNat (lm_rate k))) n x) = some (.ok none, lm_w (lm_u (lm_u (lm_u m 5 1 (Int32.ofNat (lm_rate k))) 5 10 (lm_sfx k)) 5 2 (Int32.ofInt 0)) (lm_u (lm_fil n 8 0 25 fun _ => Int64.ofNat 0) 5 3 (Int64.ofNat 0)) x) := by
    refine lm_e200_63 ?_
    unfold lm_q200_63
    repeat (first
    | ((with_reducible apply lm_sI); exact rfl)
    | ((with_reducible apply lm_sR); exact rfl)
    | ((with_reducible apply lm_sS); exact rfl; exact rfl)
    | ((with_reducible apply lm_sL); exact rfl)
    | ((with_reducible apply lm_sP); exact rfl; exact rfl)
    | ((with_reducible apply lm_sPL); exact rfl; exact rfl)
    | ((with_reducible apply lm_sAA); exact rfl; first | exact rfl | exact lm_roO (by omega) | exact lm_roM (by omega))
    | ((with_reducible apply lm_sI); exact lm_fpL (by omega))
    | ((with_reducible apply lm_sR); exact lm_fpB (by omega))
    | ((with_reducible apply lm_sP); exact lm_fpL (by omega); exact rfl)
    | ((with_reducible apply lm_sS); exact lm_ocO (by omega); exact rfl)
    | ((with_reducible apply lm_sA); exact rfl; omega)
    | ((with_reducible apply lm_sJ); exact rfl; omega)
    | ((with_reducible apply lm_sB); (first | exact rfl | exact lm_arB (by omega) | exact lm_arM (by omega)); omega)
    | ((with_reducible apply lm_wA); exact rfl; omega)
    | ((with_reducible apply lm_wJ); exact rfl; omega)
    | ((with_reducible apply lm_wB); (first | exact rfl | exact lm_arB (by omega) | exact lm_arM (by omega)); omega)
    | ((with_reducible apply lm_sAl); (first | exact rfl | exact lm_arB (by omega) | exact lm_arM (by omega)); omega)
    | ((with_reducible apply lm_iW); decide))
    refine lm_cV (lm_u274 (d := d)) ?_
    repeat (first
    | ((with_reducible apply lm_sI); exact rfl)
    | ((with_reducible apply lm_sR); exact rfl)
    | ((with_reducible apply lm_sS); exact rfl; exact rfl)
    | ((with_reducible apply lm_sL); exact rfl)
    | ((with_reducible apply lm_sP); exact rfl; exact rfl)
    | ((with_reducible apply lm_sPL); exact rfl; exact rfl)
    | ((with_reducible apply lm_sAA); exact rfl; first | exact rfl | exact lm_roO (by omega) | exact lm_roM (by omega))
    | ((with_reducible apply lm_sI); exact lm_fpL (by omega))
    | ((with_reducible apply lm_sR); exact lm_fpB (by omega))
    | ((with_reducible apply lm_sP); exact lm_fpL (by omega); exact rfl)
    | ((with_reducible apply lm_sS); exact lm_ocO (by omega); exact rfl)
    | ((with_reducible apply lm_sA); exact rfl; omega)
    | ((with_reducible apply lm_sJ); exact rfl; omega)
    | ((with_reducible apply lm_sB); (first | exact rfl | exact lm_arB (by omega) | exact lm_arM (by omega)); omega)
    | ((with_reducible apply lm_wA); exact rfl; omega)
    | ((with_reducible apply lm_wJ); exact rfl; omega)
    | ((with_reducible apply lm_wB); (first | exact rfl | exact lm_arB (by omega) | exact lm_arM (by omega)); omega)
    | ((with_reducible apply lm_sAl); (first | exact rfl | exact lm_arB (by omega) | exact lm_arM (by omega)); omega)
    | ((with_reducible apply lm_iW); decide))
    refine lm_cV (lm_u275_5 (d := d)) ?_
    exact rfl
  have mid : ∀ z : Int32, (z = if k < 11 then Int32.ofInt 0 else Int32.ofInt 1) → lm_rn (lm_sc xs) (d + 1) lm_m200.2.2.2.2.1 (lm_reg lm_m200.2.2.2.2.2) (48, [(0, .ref 5), (2, .int z)], [.int (Int32.ofNat (lm_rate k)), .ref 5]) (lm_w m n x) = some (.ok none, lm_w (lm_u (lm_u (lm_u m 5 1 (Int32.ofNat (lm_rate k))) 5 10 (lm_sfx k)) 5 2 (Int32.ofInt 0)) (lm_u (lm_fil n 8 0 25 fun _ => Int64.ofNat 0) 5 3 (Int64.ofNat 0)) x) := by
    intro z hz
    refine lm_e200_48 ?_
    unfold lm_q200_48
    repeat (first
    | ((with_reducible apply lm_sI); exact rfl)
    | ((with_reducible apply lm_sR); exact rfl)
    | ((with_reducible apply lm_sS); exact rfl; exact rfl)
    | ((with_reducible apply lm_sL); exact rfl)
    | ((with_reducible apply lm_sP); exact rfl; exact rfl)
    | ((with_reducible apply lm_sPL); exact rfl; exact rfl)
    | ((with_reducible apply lm_sAA); exact rfl; first | exact rfl | exact lm_roO (by omega) | exact lm_roM (by omega))
    | ((with_reducible apply lm_sI); exact lm_fpL (by omega))
    | ((with_reducible apply lm_sR); exact lm_fpB (by omega))
    | ((with_reducible apply lm_sP); exact lm_fpL (by omega); exact rfl)
    | ((with_reducible apply lm_sS); exact lm_ocO (by omega); exact rfl)
    | ((with_reducible apply lm_sA); exact rfl; omega)
    | ((with_reducible apply lm_sJ); exact rfl; omega)
    | ((with_reducible apply lm_sB); (first | exact rfl | exact lm_arB (by omega) | exact lm_arM (by omega)); omega)
    | ((with_reducible apply lm_wA); exact rfl; omega)
    | ((with_reducible apply lm_wJ); exact rfl; omega)
    | ((with_reducible apply lm_wB); (first | exact rfl | exact lm_arB (by omega) | exact lm_arM (by omega)); omega)
    | ((with_reducible apply lm_sAl); (first | exact rfl | exact lm_arB (by omega) | exact lm_arM (by omega)); omega)
    | ((with_reducible apply lm_iW); decide))
    unfold lm_sfx at tail
    by_cases c : k < 11
    · rw [hz, if_pos c]
      rw [if_pos (show k ≤ 10 by omega)] at tail
      refine lm_iT (show Int32.ofInt 0 = 0 by decide) ?_
      unfold lm_sfx
      rw [if_pos (show k ≤ 10 by omega)]
      exact tail
    · rw [hz, if_neg c]
      rw [if_neg (show ¬ k ≤ 10 by omega)] at tail
      refine lm_iF (show ¬ Int32.ofInt 1 = 0 by decide) ?_
      unfold lm_sfx
      rw [if_neg (show ¬ k ≤ 10 by omega)]
      exact tail
  have top : ∀ z : Int32, (z = if k < 11 then Int32.ofInt 0 else Int32.ofInt 1) → lm_rn (lm_sc xs) (d + 1) lm_m200.2.2.2.2.1 (lm_reg lm_m200.2.2.2.2.2) (11, [(0, .ref 5), (1, .int (Int32.ofNat k))], [.int z]) (lm_w m n x) = some (.ok none, lm_w (lm_u (lm_u (lm_u m 5 1 (Int32.ofNat (lm_rate k))) 5 10 (lm_sfx k)) 5 2 (Int32.ofInt 0)) (lm_u (lm_fil n 8 0 25 fun _ => Int64.ofNat 0) 5 3 (Int64.ofNat 0)) x) := by
    intro z hz
    have M := mid z hz
    refine lm_e200_11 ?_
    unfold lm_q200_11
    rw [lm_K11, lm_K12]
    by_cases c11 : k = 11
    · refine lm_neF (by omega) (by omega) (fun g => g c11) ?_
      rw [show lm_rate k = 168 by unfold lm_rate; rw [if_pos c11]] at M ⊢
      exact M
    · refine lm_neT (by omega) (by omega) c11 ?_
      by_cases c12 : k = 12
      · refine lm_neF (by omega) (by omega) (fun g => g c12) ?_
        rw [show lm_rate k = 136 by unfold lm_rate; rw [if_neg c11, if_pos c12]] at M ⊢
        exact M
      · refine lm_neT (by omega) (by omega) c12 ?_
        refine lm_sSI (by omega) h2 ?_
        have hd := lm_dg_le k
        rw [show Int32.ofInt 200 - Int32.ofInt 2 * Int32.ofNat (lm_dg k) = Int32.ofNat (lm_rate k) by
          rw [lm_K200, lm_K2, lm_om, lm_osu (by omega)]
          unfold lm_rate
          rw [if_neg c11, if_neg c12, if_neg (by omega)]]
        exact M
  refine lm_cal_of (Y := lm_m200) rfl rfl (lm_e200_0 ?_)
  unfold lm_q200_0
  rw [lm_K11]
  by_cases c : k < 11
  · exact lm_ltT (by omega) (by omega) c (top _ (by rw [if_pos c]))
  · exact lm_ltF (by omega) (by omega) c (top _ (by rw [if_neg c]))
/-- the words that SHA-256 starts from -/
def lm_iv2 (k i : Nat) : Int32 := if k = 4 then Int64.toInt32 ((lm_lst 2).getD (8 + i) 0) else Int64.toInt32 (lm_uL ((lm_lst 2).getD i 0) (Int32.ofInt 32))
theorem lm_l201 (hk : k = 1 ∨ k = 4) : ∀ j t, t + j = 8 → lm_rn (lm_sc xs) (d + 1) lm_m201.2.2.2.2.1 (lm_reg lm_m201.2.2.2.2.2) (2, [(0, .ref 11), (1, .int (Int32.ofNat k)), (2, .int (Int32.ofNat t))], []) (lm_w (lm_fil m 14 0 t (lm_iv2 k)) n x) = some (.ok none, lm_w (lm_u (lm_fil m 14 0 8 (lm_iv2 k)) 11 2 (Int32.ofInt 0)) (lm_u n 11 3 (Int64.ofNat 0)) x) := by
  intro j
  induction j with
  | zero =>
    intro t ht
    have ht : t = 8 := ht
    subst ht
    refine lm_e201_2 ?_
    unfold lm_q201_2
    rw [lm_K8]
    refine lm_geT (by decide) (by decide) (by decide) ?_
    repeat (first
    | ((with_reducible apply lm_sI); exact rfl)
    | ((with_reducible apply lm_sR); exact rfl)
    | ((with_reducible apply lm_sS); exact rfl; exact rfl)
    | ((with_reducible apply lm_sL); exact rfl)
    | ((with_reducible apply lm_sP); exact rfl; exact rfl)
    | ((with_reducible apply lm_sPL); exact rfl; exact rfl)
    | ((with_reducible apply lm_sAA); exact rfl; first | exact rfl | exact lm_roO (by omega) | exact lm_roM (by omega))
    | ((with_reducible apply lm_sI); exact lm_fpL (by omega))
    | ((with_reducible apply lm_sR); exact lm_fpB (by omega))
    | ((with_reducible apply lm_sP); exact lm_fpL (by omega); exact rfl)
    | ((with_reducible apply lm_sS); exact lm_ocO (by omega); exact rfl)
    | ((with_reducible apply lm_sA); exact rfl; omega)
    | ((with_reducible apply lm_sJ); exact rfl; omega)
    | ((with_reducible apply lm_sB); (first | exact rfl | exact lm_arB (by omega) | exact lm_arM (by omega)); omega)
    | ((with_reducible apply lm_wA); exact rfl; omega)
    | ((with_reducible apply lm_wJ); exact rfl; omega)
    | ((with_reducible apply lm_wB); (first | exact rfl | exact lm_arB (by omega) | exact lm_arM (by omega)); omega)
    | ((with_reducible apply lm_sAl); (first | exact rfl | exact lm_arB (by omega) | exact lm_arM (by omega)); omega)
    | ((with_reducible apply lm_iW); decide))
    refine lm_cV (lm_u275_11 (d := d)) ?_
    exact rfl
  | succ j ih =>
    intro t ht
    have I := ih (t + 1) (by omega)
    rw [← lm_fl_step (g := lm_iv2 k) (by omega)] at I
    refine lm_e201_2 ?_
    unfold lm_q201_2
    rw [lm_K8, lm_K4]
    refine lm_geF (by omega) (by omega) (by omega) ?_
    rcases hk with hk | hk
    · refine lm_neT (by omega) (by omega) (by omega) ?_
      refine lm_e201_24 ?_
      unfold lm_q201_24
      refine lm_sStL (ys := lm_lst 2) rfl (by show t < 16; omega) (by decide) ?_
      repeat (first
    | ((with_reducible apply lm_sI); exact rfl)
    | ((with_reducible apply lm_sR); exact rfl)
    | ((with_reducible apply lm_sS); exact rfl; exact rfl)
    | ((with_reducible apply lm_sL); exact rfl)
    | ((with_reducible apply lm_sP); exact rfl; exact rfl)
    | ((with_reducible apply lm_sPL); exact rfl; exact rfl)
    | ((with_reducible apply lm_sAA); exact rfl; first | exact rfl | exact lm_roO (by omega) | exact lm_roM (by omega))
    | ((with_reducible apply lm_sI); exact lm_fpL (by omega))
    | ((with_reducible apply lm_sR); exact lm_fpB (by omega))
    | ((with_reducible apply lm_sP); exact lm_fpL (by omega); exact rfl)
    | ((with_reducible apply lm_sS); exact lm_ocO (by omega); exact rfl)
    | ((with_reducible apply lm_sA); exact rfl; omega)
    | ((with_reducible apply lm_sJ); exact rfl; omega)
    | ((with_reducible apply lm_sB); (first | exact rfl | exact lm_arB (by omega) | exact lm_arM (by omega)); omega)
    | ((with_reducible apply lm_wA); exact rfl; omega)
    | ((with_reducible apply lm_wJ); exact rfl; omega)
    | ((with_reducible apply lm_wB); (first | exact rfl | exact lm_arB (by omega) | exact lm_arM (by omega)); omega)
    | ((with_reducible apply lm_sAl); (first | exact rfl | exact lm_arB (by omega) | exact lm_arM (by omega)); omega)
    | ((with_reducible apply lm_iW); decide))
      rw [lm_K4]
      refine lm_neT (by omega) (by omega) (by omega) ?_
      refine lm_e201_44 ?_
      unfold lm_q201_44
      repeat (first
    | ((with_reducible apply lm_sI); exact rfl)
    | ((with_reducible apply lm_sR); exact rfl)
    | ((with_reducible apply lm_sS); exact rfl; exact rfl)
    | ((with_reducible apply lm_sL); exact rfl)
    | ((with_reducible apply lm_sP); exact rfl; exact rfl)
    | ((with_reducible apply lm_sPL); exact rfl; exact rfl)
    | ((with_reducible apply lm_sAA); exact rfl; first | exact rfl | exact lm_roO (by omega) | exact lm_roM (by omega))
    | ((with_reducible apply lm_sI); exact lm_fpL (by omega))
    | ((with_reducible apply lm_sR); exact lm_fpB (by omega))
    | ((with_reducible apply lm_sP); exact lm_fpL (by omega); exact rfl)
    | ((with_reducible apply lm_sS); exact lm_ocO (by omega); exact rfl)
    | ((with_reducible apply lm_sA); exact rfl; omega)
    | ((with_reducible apply lm_sJ); exact rfl; omega)
    | ((with_reducible apply lm_sB); (first | exact rfl | exact lm_arB (by omega) | exact lm_arM (by omega)); omega)
    | ((with_reducible apply lm_wA); exact rfl; omega)
    | ((with_reducible apply lm_wJ); exact rfl; omega)
    | ((with_reducible apply lm_wB); (first | exact rfl | exact lm_arB (by omega) | exact lm_arM (by omega)); omega)
    | ((with_reducible apply lm_sAl); (first | exact rfl | exact lm_arB (by omega) | exact lm_arM (by omega)); omega)
    | ((with_reducible apply lm_iW); decide))
      rw [show Int32.ofNat t + Int32.ofInt 1 = Int32.ofNat (t + 1) from lm_oa t 1]
      rw [show lm_iv2 k t = Int64.toInt32 (lm_uL ((lm_lst 2).getD t 0) (Int32.ofInt 32)) by unfold lm_iv2; rw [if_neg (by omega)]] at I
      exact I
    · refine lm_neF (by omega) (by omega) (by omega) ?_
      refine lm_e201_24 ?_
      unfold lm_q201_24
      rw [lm_oo]
      refine lm_sStL (ys := lm_lst 2) rfl (by show 8 + t < 16; omega) (by decide) ?_
      repeat (first
    | ((with_reducible apply lm_sI); exact rfl)
    | ((with_reducible apply lm_sR); exact rfl)
    | ((with_reducible apply lm_sS); exact rfl; exact rfl)
    | ((with_reducible apply lm_sL); exact rfl)
    | ((with_reducible apply lm_sP); exact rfl; exact rfl)
    | ((with_reducible apply lm_sPL); exact rfl; exact rfl)
    | ((with_reducible apply lm_sAA); exact rfl; first | exact rfl | exact lm_roO (by omega) | exact lm_roM (by omega))
    | ((with_reducible apply lm_sI); exact lm_fpL (by omega))
    | ((with_reducible apply lm_sR); exact lm_fpB (by omega))
    | ((with_reducible apply lm_sP); exact lm_fpL (by omega); exact rfl)
    | ((with_reducible apply lm_sS); exact lm_ocO (by omega); exact rfl)
    | ((with_reducible apply lm_sA); exact rfl; omega)
    | ((with_reducible apply lm_sJ); exact rfl; omega)
    | ((with_reducible apply lm_sB); (first | exact rfl | exact lm_arB (by omega) | exact lm_arM (by omega)); omega)
    | ((with_reducible apply lm_wA); exact rfl; omega)
    | ((with_reducible apply lm_wJ); exact rfl; omega)
    | ((with_reducible apply lm_wB); (first | exact rfl | exact lm_arB (by omega) | exact lm_arM (by omega)); omega)
    | ((with_reducible apply lm_sAl); (first | exact rfl | exact lm_arB (by omega) | exact lm_arM (by omega)); omega)
    | ((with_reducible apply lm_iW); decide))
      rw [lm_K4]
      refine lm_neF (by omega) (by omega) (by omega) ?_
      refine lm_e201_44 ?_
      unfold lm_q201_44
      repeat (first
    | ((with_reducible apply lm_sI); exact rfl)
    | ((with_reducible apply lm_sR); exact rfl)
    | ((with_reducible apply lm_sS); exact rfl; exact rfl)
    | ((with_reducible apply lm_sL); exact rfl)
    | ((with_reducible apply lm_sP); exact rfl; exact rfl)
    | ((with_reducible apply lm_sPL); exact rfl; exact rfl)
    | ((with_reducible apply lm_sAA); exact rfl; first | exact rfl | exact lm_roO (by omega) | exact lm_roM (by omega))
    | ((with_reducible apply lm_sI); exact lm_fpL (by omega))
    | ((with_reducible apply lm_sR); exact lm_fpB (by omega))
    | ((with_reducible apply lm_sP); exact lm_fpL (by omega); exact rfl)
    | ((with_reducible apply lm_sS); exact lm_ocO (by omega); exact rfl)
    | ((with_reducible apply lm_sA); exact rfl; omega)
    | ((with_reducible apply lm_sJ); exact rfl; omega)
    | ((with_reducible apply lm_sB); (first | exact rfl | exact lm_arB (by omega) | exact lm_arM (by omega)); omega)
    | ((with_reducible apply lm_wA); exact rfl; omega)
    | ((with_reducible apply lm_wJ); exact rfl; omega)
    | ((with_reducible apply lm_wB); (first | exact rfl | exact lm_arB (by omega) | exact lm_arM (by omega)); omega)
    | ((with_reducible apply lm_sAl); (first | exact rfl | exact lm_arB (by omega) | exact lm_arM (by omega)); omega)
    | ((with_reducible apply lm_iW); decide))
      rw [show Int32.ofNat t + Int32.ofInt 1 = Int32.ofNat (t + 1) from lm_oa t 1]
      rw [show lm_iv2 k t = Int64.toInt32 ((lm_lst 2).getD (8 + t) 0) by unfold lm_iv2; rw [if_pos hk]] at I
      exact I
theorem lm_u201 (hk : k = 1 ∨ k = 4) : lm_cal (lm_sc xs) (d + 2) 201 [.ref 11, .int (Int32.ofNat k)] (lm_w m n x) = some (.ok none, lm_w (lm_u (lm_fil m 14 0 8 (lm_iv2 k)) 11 2 (Int32.ofInt 0)) (lm_u n 11 3 (Int64.ofNat 0)) x) := by
  have h := lm_l201 (xs := xs) (d := d) (m := m) (n := n) (x := x) hk 8 0 rfl
  rw [lm_fl_nil] at h
  refine lm_cal_of (Y := lm_m201) rfl rfl (lm_e201_0 ?_)
  unfold lm_q201_0
  exact h
/-- the words that SHA-512 starts from -/
def lm_iv5 (k i : Nat) : Int64 := if k = 5 then (lm_lst 3).getD i 0 else if k = 6 then (lm_lst 4).getD i 0 else if k = 2 then (lm_lst 2).getD (8 + i) 0 else (lm_lst 2).getD i 0
theorem lm_u202 (hk : k = 2 ∨ k = 3 ∨ k = 5 ∨ k = 6) : lm_cal (lm_sc xs) (d + 2) 202 [.ref 17, .int (Int32.ofNat k)] (lm_w m n x) = some (.ok none, lm_w (lm_u m 17 2 (Int32.ofInt 0)) (lm_u (lm_fil n 20 0 8 (lm_iv5 k)) 17 3 (Int64.ofNat 0)) x) := by
  refine lm_cal_of (Y := lm_m202) rfl rfl (lm_e202_0 ?_)
  unfold lm_q202_0
  rw [lm_K5, lm_K6, lm_K2, lm_K0, lm_K8]
  have e : ∀ g : Nat → Int64, (∀ i, i < 8 → lm_iv5 k i = g i) → lm_fil n 20 0 (0 + 8) g = lm_fil n 20 0 8 (lm_iv5 k) := fun g hg => by
    funext q i
    rw [lm_rf, lm_rf]
    by_cases c : q = 20 ∧ 0 ≤ i ∧ i < 8
    · rw [if_pos c, if_pos c, hg i c.2.2]
    · rw [if_neg c, if_neg c]
  by_cases c5 : k = 5
  · refine lm_neF (by omega) (by omega) (fun g => g c5) ?_
    repeat (first
    | ((with_reducible apply lm_sI); exact rfl)
    | ((with_reducible apply lm_sR); exact rfl)
    | ((with_reducible apply lm_sS); exact rfl; exact rfl)
    | ((with_reducible apply lm_sL); exact rfl)
    | ((with_reducible apply lm_sP); exact rfl; exact rfl)
    | ((with_reducible apply lm_sPL); exact rfl; exact rfl)
    | ((with_reducible apply lm_sAA); exact rfl; first | exact rfl | exact lm_roO (by omega) | exact lm_roM (by omega))
    | ((with_reducible apply lm_sI); exact lm_fpL (by omega))
    | ((with_reducible apply lm_sR); exact lm_fpB (by omega))
    | ((with_reducible apply lm_sP); exact lm_fpL (by omega); exact rfl)
    | ((with_reducible apply lm_sS); exact lm_ocO (by omega); exact rfl)
    | ((with_reducible apply lm_sA); exact rfl; omega)
    | ((with_reducible apply lm_sJ); exact rfl; omega)
    | ((with_reducible apply lm_sB); (first | exact rfl | exact lm_arB (by omega) | exact lm_arM (by omega)); omega)
    | ((with_reducible apply lm_wA); exact rfl; omega)
    | ((with_reducible apply lm_wJ); exact rfl; omega)
    | ((with_reducible apply lm_wB); (first | exact rfl | exact lm_arB (by omega) | exact lm_arM (by omega)); omega)
    | ((with_reducible apply lm_sAl); (first | exact rfl | exact lm_arB (by omega) | exact lm_arM (by omega)); omega)
    | ((with_reducible apply lm_iW); decide))
    refine lm_sCpS (ws := lm_lst 3) (w := 8) rfl rfl (by decide) (by decide) (by decide) ?_
    rw [e _ (fun i _ => by unfold lm_iv5; rw [if_pos c5]; rfl)]
    repeat (first
    | ((with_reducible apply lm_sI); exact rfl)
    | ((with_reducible apply lm_sR); exact rfl)
    | ((with_reducible apply lm_sS); exact rfl; exact rfl)
    | ((with_reducible apply lm_sL); exact rfl)
    | ((with_reducible apply lm_sP); exact rfl; exact rfl)
    | ((with_reducible apply lm_sPL); exact rfl; exact rfl)
    | ((with_reducible apply lm_sAA); exact rfl; first | exact rfl | exact lm_roO (by omega) | exact lm_roM (by omega))
    | ((with_reducible apply lm_sI); exact lm_fpL (by omega))
    | ((with_reducible apply lm_sR); exact lm_fpB (by omega))
    | ((with_reducible apply lm_sP); exact lm_fpL (by omega); exact rfl)
    | ((with_reducible apply lm_sS); exact lm_ocO (by omega); exact rfl)
    | ((with_reducible apply lm_sA); exact rfl; omega)
    | ((with_reducible apply lm_sJ); exact rfl; omega)
    | ((with_reducible apply lm_sB); (first | exact rfl | exact lm_arB (by omega) | exact lm_arM (by omega)); omega)
    | ((with_reducible apply lm_wA); exact rfl; omega)
    | ((with_reducible apply lm_wJ); exact rfl; omega)
    | ((with_reducible apply lm_wB); (first | exact rfl | exact lm_arB (by omega) | exact lm_arM (by omega)); omega)
    | ((with_reducible apply lm_sAl); (first | exact rfl | exact lm_arB (by omega) | exact lm_arM (by omega)); omega)
    | ((with_reducible apply lm_iW); decide))
    refine lm_cV (lm_u275_17 (d := d)) ?_
    exact rfl
  · refine lm_neT (by omega) (by omega) c5 ?_
    by_cases c6 : k = 6
    · refine lm_neF (by omega) (by omega) (fun g => g c6) ?_
      repeat (first
    | ((with_reducible apply lm_sI); exact rfl)
    | ((with_reducible apply lm_sR); exact rfl)
    | ((with_reducible apply lm_sS); exact rfl; exact rfl)
    | ((with_reducible apply lm_sL); exact rfl)
    | ((with_reducible apply lm_sP); exact rfl; exact rfl)
    | ((with_reducible apply lm_sPL); exact rfl; exact rfl)
    | ((with_reducible apply lm_sAA); exact rfl; first | exact rfl | exact lm_roO (by omega) | exact lm_roM (by omega))
    | ((with_reducible apply lm_sI); exact lm_fpL (by omega))
    | ((with_reducible apply lm_sR); exact lm_fpB (by omega))
    | ((with_reducible apply lm_sP); exact lm_fpL (by omega); exact rfl)
    | ((with_reducible apply lm_sS); exact lm_ocO (by omega); exact rfl)
    | ((with_reducible apply lm_sA); exact rfl; omega)
    | ((with_reducible apply lm_sJ); exact rfl; omega)
    | ((with_reducible apply lm_sB); (first | exact rfl | exact lm_arB (by omega) | exact lm_arM (by omega)); omega)
    | ((with_reducible apply lm_wA); exact rfl; omega)
    | ((with_reducible apply lm_wJ); exact rfl; omega)
    | ((with_reducible apply lm_wB); (first | exact rfl | exact lm_arB (by omega) | exact lm_arM (by omega)); omega)
    | ((with_reducible apply lm_sAl); (first | exact rfl | exact lm_arB (by omega) | exact lm_arM (by omega)); omega)
    | ((with_reducible apply lm_iW); decide))
      refine lm_sCpS (ws := lm_lst 4) (w := 8) rfl rfl (by decide) (by decide) (by decide) ?_
      rw [e _ (fun i _ => by unfold lm_iv5; rw [if_neg c5, if_pos c6]; rfl)]
      repeat (first
    | ((with_reducible apply lm_sI); exact rfl)
    | ((with_reducible apply lm_sR); exact rfl)
    | ((with_reducible apply lm_sS); exact rfl; exact rfl)
    | ((with_reducible apply lm_sL); exact rfl)
    | ((with_reducible apply lm_sP); exact rfl; exact rfl)
    | ((with_reducible apply lm_sPL); exact rfl; exact rfl)
    | ((with_reducible apply lm_sAA); exact rfl; first | exact rfl | exact lm_roO (by omega) | exact lm_roM (by omega))
    | ((with_reducible apply lm_sI); exact lm_fpL (by omega))
    | ((with_reducible apply lm_sR); exact lm_fpB (by omega))
    | ((with_reducible apply lm_sP); exact lm_fpL (by omega); exact rfl)
    | ((with_reducible apply lm_sS); exact lm_ocO (by omega); exact rfl)
    | ((with_reducible apply lm_sA); exact rfl; omega)
    | ((with_reducible apply lm_sJ); exact rfl; omega)
    | ((with_reducible apply lm_sB); (first | exact rfl | exact lm_arB (by omega) | exact lm_arM (by omega)); omega)
    | ((with_reducible apply lm_wA); exact rfl; omega)
    | ((with_reducible apply lm_wJ); exact rfl; omega)
    | ((with_reducible apply lm_wB); (first | exact rfl | exact lm_arB (by omega) | exact lm_arM (by omega)); omega)
    | ((with_reducible apply lm_sAl); (first | exact rfl | exact lm_arB (by omega) | exact lm_arM (by omega)); omega)
    | ((with_reducible apply lm_iW); decide))
      refine lm_cV (lm_u275_17 (d := d)) ?_
      exact rfl
    · refine lm_neT (by omega) (by omega) c6 ?_
      by_cases c2 : k = 2
      · refine lm_neF (by omega) (by omega) (fun g => g c2) ?_
        refine lm_e202_59 ?_
        unfold lm_q202_59
        rw [lm_K0, lm_K8]
        repeat (first
    | ((with_reducible apply lm_sI); exact rfl)
    | ((with_reducible apply lm_sR); exact rfl)
    | ((with_reducible apply lm_sS); exact rfl; exact rfl)
    | ((with_reducible apply lm_sL); exact rfl)
    | ((with_reducible apply lm_sP); exact rfl; exact rfl)
    | ((with_reducible apply lm_sPL); exact rfl; exact rfl)
    | ((with_reducible apply lm_sAA); exact rfl; first | exact rfl | exact lm_roO (by omega) | exact lm_roM (by omega))
    | ((with_reducible apply lm_sI); exact lm_fpL (by omega))
    | ((with_reducible apply lm_sR); exact lm_fpB (by omega))
    | ((with_reducible apply lm_sP); exact lm_fpL (by omega); exact rfl)
    | ((with_reducible apply lm_sS); exact lm_ocO (by omega); exact rfl)
    | ((with_reducible apply lm_sA); exact rfl; omega)
    | ((with_reducible apply lm_sJ); exact rfl; omega)
    | ((with_reducible apply lm_sB); (first | exact rfl | exact lm_arB (by omega) | exact lm_arM (by omega)); omega)
    | ((with_reducible apply lm_wA); exact rfl; omega)
    | ((with_reducible apply lm_wJ); exact rfl; omega)
    | ((with_reducible apply lm_wB); (first | exact rfl | exact lm_arB (by omega) | exact lm_arM (by omega)); omega)
    | ((with_reducible apply lm_sAl); (first | exact rfl | exact lm_arB (by omega) | exact lm_arM (by omega)); omega)
    | ((with_reducible apply lm_iW); decide))
        refine lm_sCpS (ws := lm_lst 2) (w := 8) rfl rfl (by decide) (by decide) (by decide) ?_
        rw [e _ (fun i _ => by unfold lm_iv5; rw [if_neg c5, if_neg c6, if_pos c2, Nat.add_comm 8 i]; rfl)]
        repeat (first
    | ((with_reducible apply lm_sI); exact rfl)
    | ((with_reducible apply lm_sR); exact rfl)
    | ((with_reducible apply lm_sS); exact rfl; exact rfl)
    | ((with_reducible apply lm_sL); exact rfl)
    | ((with_reducible apply lm_sP); exact rfl; exact rfl)
    | ((with_reducible apply lm_sPL); exact rfl; exact rfl)
    | ((with_reducible apply lm_sAA); exact rfl; first | exact rfl | exact lm_roO (by omega) | exact lm_roM (by omega))
    | ((with_reducible apply lm_sI); exact lm_fpL (by omega))
    | ((with_reducible apply lm_sR); exact lm_fpB (by omega))
    | ((with_reducible apply lm_sP); exact lm_fpL (by omega); exact rfl)
    | ((with_reducible apply lm_sS); exact lm_ocO (by omega); exact rfl)
    | ((with_reducible apply lm_sA); exact rfl; omega)
    | ((with_reducible apply lm_sJ); exact rfl; omega)
    | ((with_reducible apply lm_sB); (first | exact rfl | exact lm_arB (by omega) | exact lm_arM (by omega)); omega)
    | ((with_reducible apply lm_wA); exact rfl; omega)
    | ((with_reducible apply lm_wJ); exact rfl; omega)
    | ((with_reducible apply lm_wB); (first | exact rfl | exact lm_arB (by omega) | exact lm_arM (by omega)); omega)
    | ((with_reducible apply lm_sAl); (first | exact rfl | exact lm_arB (by omega) | exact lm_arM (by omega)); omega)
    | ((with_reducible apply lm_iW); decide))
        refine lm_cV (lm_u275_17 (d := d)) ?_
        exact rfl
      · refine lm_neT (by omega) (by omega) c2 ?_
        refine lm_e202_59 ?_
        unfold lm_q202_59
        rw [lm_K0, lm_K8]
        repeat (first
    | ((with_reducible apply lm_sI); exact rfl)
    | ((with_reducible apply lm_sR); exact rfl)
    | ((with_reducible apply lm_sS); exact rfl; exact rfl)
    | ((with_reducible apply lm_sL); exact rfl)
    | ((with_reducible apply lm_sP); exact rfl; exact rfl)
    | ((with_reducible apply lm_sPL); exact rfl; exact rfl)
    | ((with_reducible apply lm_sAA); exact rfl; first | exact rfl | exact lm_roO (by omega) | exact lm_roM (by omega))
    | ((with_reducible apply lm_sI); exact lm_fpL (by omega))
    | ((with_reducible apply lm_sR); exact lm_fpB (by omega))
    | ((with_reducible apply lm_sP); exact lm_fpL (by omega); exact rfl)
    | ((with_reducible apply lm_sS); exact lm_ocO (by omega); exact rfl)
    | ((with_reducible apply lm_sA); exact rfl; omega)
    | ((with_reducible apply lm_sJ); exact rfl; omega)
    | ((with_reducible apply lm_sB); (first | exact rfl | exact lm_arB (by omega) | exact lm_arM (by omega)); omega)
    | ((with_reducible apply lm_wA); exact rfl; omega)
    | ((with_reducible apply lm_wJ); exact rfl; omega)
    | ((with_reducible apply lm_wB); (first | exact rfl | exact lm_arB (by omega) | exact lm_arM (by omega)); omega)
    | ((with_reducible apply lm_sAl); (first | exact rfl | exact lm_arB (by omega) | exact lm_arM (by omega)); omega)
    | ((with_reducible apply lm_iW); decide))
        refine lm_sCpS (ws := lm_lst 2) (w := 8) rfl rfl (by decide) (by decide) (by decide) ?_
        rw [e _ (fun i _ => by unfold lm_iv5; rw [if_neg c5, if_neg c6, if_neg c2]; rfl)]
        repeat (first
    | ((with_reducible apply lm_sI); exact rfl)
    | ((with_reducible apply lm_sR); exact rfl)
    | ((with_reducible apply lm_sS); exact rfl; exact rfl)
    | ((with_reducible apply lm_sL); exact rfl)
    | ((with_reducible apply lm_sP); exact rfl; exact rfl)
    | ((with_reducible apply lm_sPL); exact rfl; exact rfl)
    | ((with_reducible apply lm_sAA); exact rfl; first | exact rfl | exact lm_roO (by omega) | exact lm_roM (by omega))
    | ((with_reducible apply lm_sI); exact lm_fpL (by omega))
    | ((with_reducible apply lm_sR); exact lm_fpB (by omega))
    | ((with_reducible apply lm_sP); exact lm_fpL (by omega); exact rfl)
    | ((with_reducible apply lm_sS); exact lm_ocO (by omega); exact rfl)
    | ((with_reducible apply lm_sA); exact rfl; omega)
    | ((with_reducible apply lm_sJ); exact rfl; omega)
    | ((with_reducible apply lm_sB); (first | exact rfl | exact lm_arB (by omega) | exact lm_arM (by omega)); omega)
    | ((with_reducible apply lm_wA); exact rfl; omega)
    | ((with_reducible apply lm_wJ); exact rfl; omega)
    | ((with_reducible apply lm_wB); (first | exact rfl | exact lm_arB (by omega) | exact lm_arM (by omega)); omega)
    | ((with_reducible apply lm_sAl); (first | exact rfl | exact lm_arB (by omega) | exact lm_arM (by omega)); omega)
    | ((with_reducible apply lm_iW); decide))
        refine lm_cV (lm_u275_17 (d := d)) ?_
        exact rfl
end LMSR
