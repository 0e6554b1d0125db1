/-! ===== digest, the plain hashes ===== -/
def lm_dgl (k w : Nat) : Nat := if k = 11 ∨ k = 12 then w else lm_dg k
def lm_h0 (m : lm_MI) (n : lm_ML) (k : Nat) : lm_HV := (0, Int64.ofNat 0, lm_st0' (n 215) (n 217) (n 218) k (n 223), m 227)
theorem lm_dg_k {k : Nat} (h1 : 1 ≤ k) (h2 : k ≤ 12) : k ≤ 6 → lm_dg k ≤ 64 ∧ (lm_rate k = 64 → lm_dg k ≤ 32) := by
  match k, h1, h2 with
  | 1, _, _ => decide
  | 2, _, _ => decide
  | 3, _, _ => decide
  | 4, _, _ => decide
  | 5, _, _ => decide
  | 6, _, _ => decide
  | 7, _, _ => decide
  | 8, _, _ => decide
  | 9, _, _ => decide
  | 10, _, _ => decide
  | 11, _, _ => decide
  | 12, _, _ => decide
section LMDI
variable {xs : List Int32} {d k w l : Nat} {m : lm_MI} {n : lm_ML} {x : lm_H × Nat × Nat}
theorem lm_u137p {sc : lm_H} {σ : lm_S} (h1 : 1 ≤ k) (h2 : k ≤ 12) : lm_cal sc (d + 1) 137 [.int (Int32.ofNat k)] σ = some (.ok (some (.int (Int32.ofNat k))), σ) := by
  refine lm_cal_of (Y := lm_m137) rfl rfl (lm_e137_0 ?_)
  unfold lm_q137_0
  simp only [lm_K13, lm_K14, lm_K15, lm_K16]
  refine lm_eqF (by omega) (by omega) (by omega) ?_
  refine lm_neT (by omega) (by omega) (by omega) ?_
  refine lm_eqF (by omega) (by omega) (by omega) ?_
  refine lm_neT (by omega) (by omega) (by omega) ?_
  exact rfl
/-- the out of a plain digest -/
def lm_dv (m : lm_MI) (n : lm_ML) (k q l : Nat) (i : Nat) : Int32 := lm_ou (lm_tb m n) k (lm_rate k) (lm_hf (lm_tb m n) k (lm_rate k) (lm_hps (lm_tb m n) k (lm_rate k) (fun i => lm_b8 (m q i)) l 0 (lm_h0 m n k))).2.2.1 i
theorem lm_dgl_le (hw : w ≤ 65536) : lm_dgl k w ≤ 65536 := by
  have := lm_dg_le k
  unfold lm_dgl
  split <;> omega
theorem lm_u59p (hc : lm_Con m n) (h1 : 1 ≤ k) (h2 : k ≤ 12) (hw : w ≤ 65536) (hm : m 32 1 = Int32.ofNat l) (hl : l ≤ 65536) : ∃ m1 n1, lm_cal (lm_sc xs) (d + 5) 59 [.ref 0, .int (Int32.ofNat k), .int (Int32.ofNat w)] (lm_w m n x) = some (.ok (some (.int (Int32.ofNat (lm_dgl k w)))), lm_w (lm_fil m1 39 0 (lm_dgl k w) (lm_dv m n k 33 l)) n1 x) ∧ lm_fC (lm_u m 38 1 (Int32.ofNat (lm_dgl k w))) n m1 n1 := by
  have hT := hc.tok xs
  have hI := hc.iok
  obtain ⟨_, _, _, _, _, _, _, _, g11, g17⟩ := hc
  have hL := lm_dgl_le (k := k) hw
  have hrp := lm_rate_pos k
  obtain ⟨m2, n2, e2, C2, f2⟩ := lm_cstt (xs := xs) (d := d + 1) (x := x) (k := k) (m := lm_u m 38 1 (Int32.ofNat (lm_dgl k w))) (n := n) h1 h2 (by rw [lm_u_row (by decide)]; exact g11) (by rw [lm_u_row (by decide)]; exact g17) hI (J := n 223) (b := m 227)
  have e33 : m2 33 = m 33 := by rw [f2.1 33 (by omega), lm_u_row (by decide)]
  obtain ⟨m3, n3, e3, C3, f3⟩ := lm_cadd (xs := xs) (d := d) (x := x) (q := 33) (v := 65536) (a := 0) (l := l) hT h1 h2 (by omega) rfl (by omega) (by omega) (show (0 : Nat) < lm_rate k by omega) C2
  rw [e33] at C3
  obtain ⟨m4, n4, e4, f4⟩ := lm_cfin (xs := xs) (d := d) (x := x) (q := 39) (v := 65536) (a := 0) (l := lm_dgl k w) hT h1 h2 (by omega) rfl (by omega) (by omega) (fun h6 => by
    have := lm_dg_k h1 h2 h6
    unfold lm_dgl
    rw [if_neg (by omega)]
    exact this) (lm_hps_f _ _ _ (show (0 : Nat) < lm_rate k by omega)) C3
  rw [Nat.zero_add] at e4
  refine ⟨m4, n4, ?_, (f2.tr (f3.C h1 h2)).tr (f4.C h1 h2)⟩
  have tail : lm_rn (lm_sc xs) (d + 4) lm_m59.2.2.2.2.1 (lm_reg lm_m59.2.2.2.2.2) (96, [(0, .ref 0), (1, .int (Int32.ofNat k)), (2, .int (Int32.ofNat w)), (3, .int (Int32.ofNat k)), (5, .int (Int32.ofInt 0)), (6, .ref 26), (7, .ref 38)], [.int (Int32.ofNat (lm_dgl k w)), .ref 38]) (lm_w m n x) = some (.ok (some (.int (Int32.ofNat (lm_dgl k w)))), lm_w (lm_fil m4 39 0 (lm_dgl k w) (lm_dv m n k 33 l)) n4 x) := by
    refine lm_e59_96 ?_
    unfold lm_q59_96
    repeat (first
    | ((with_reducible apply lm_sI); exact rfl)
    | ((with_reducible apply lm_sR); exact rfl)
    | ((with_reducible apply lm_sS); exact rfl; exact rfl)
    | ((with_reducible apply lm_sL); exact rfl)
    | ((with_reducible apply lm_sP); exact rfl; exact rfl)
    | ((with_reducible apply lm_sPL); exact rfl; exact rfl)
    | ((with_reducible apply lm_sAA); exact rfl; first | exact rfl | exact lm_roO (by omega) | exact lm_roM (by omega))
    | ((with_reducible apply lm_sI); exact lm_fpL (by omega))
    | ((with_reducible apply lm_sR); exact lm_fpB (by omega))
    | ((with_reducible apply lm_sP); exact lm_fpL (by omega); exact rfl)
    | ((with_reducible apply lm_sS); exact lm_ocO (by omega); exact rfl)
    | ((with_reducible apply lm_sA); exact rfl; omega)
    | ((with_reducible apply lm_sJ); exact rfl; omega)
    | ((with_reducible apply lm_sB); (first | exact rfl | exact lm_arB (by omega) | exact lm_arM (by omega)); omega)
    | ((with_reducible apply lm_wA); exact rfl; omega)
    | ((with_reducible apply lm_wJ); exact rfl; omega)
    | ((with_reducible apply lm_wB); (first | exact rfl | exact lm_arB (by omega) | exact lm_arM (by omega)); omega)
    | ((with_reducible apply lm_sAl); (first | exact rfl | exact lm_arB (by omega) | exact lm_arM (by omega)); omega)
    | ((with_reducible apply lm_iW); decide))
    refine lm_iT (show Int32.ofInt 0 = 0 by decide) ?_
    repeat (first
    | ((with_reducible apply lm_sI); exact rfl)
    | ((with_reducible apply lm_sR); exact rfl)
    | ((with_reducible apply lm_sS); exact rfl; exact rfl)
    | ((with_reducible apply lm_sL); exact rfl)
    | ((with_reducible apply lm_sP); exact rfl; exact rfl)
    | ((with_reducible apply lm_sPL); exact rfl; exact rfl)
    | ((with_reducible apply lm_sAA); exact rfl; first | exact rfl | exact lm_roO (by omega) | exact lm_roM (by omega))
    | ((with_reducible apply lm_sI); exact lm_fpL (by omega))
    | ((with_reducible apply lm_sR); exact lm_fpB (by omega))
    | ((with_reducible apply lm_sP); exact lm_fpL (by omega); exact rfl)
    | ((with_reducible apply lm_sS); exact lm_ocO (by omega); exact rfl)
    | ((with_reducible apply lm_sA); exact rfl; omega)
    | ((with_reducible apply lm_sJ); exact rfl; omega)
    | ((with_reducible apply lm_sB); (first | exact rfl | exact lm_arB (by omega) | exact lm_arM (by omega)); omega)
    | ((with_reducible apply lm_wA); exact rfl; omega)
    | ((with_reducible apply lm_wJ); exact rfl; omega)
    | ((with_reducible apply lm_wB); (first | exact rfl | exact lm_arB (by omega) | exact lm_arM (by omega)); omega)
    | ((with_reducible apply lm_sAl); (first | exact rfl | exact lm_arB (by omega) | exact lm_arM (by omega)); omega)
    | ((with_reducible apply lm_iW); decide))
    refine lm_cR e2 ?_
    refine lm_e59_134 ?_
    unfold lm_q59_134
    rw [lm_K3, lm_K0, lm_K15]
    repeat (first
    | ((with_reducible apply lm_sI); exact rfl)
    | ((with_reducible apply lm_sR); exact rfl)
    | ((with_reducible apply lm_sS); exact rfl; exact rfl)
    | ((with_reducible apply lm_sL); exact rfl)
    | ((with_reducible apply lm_sP); exact rfl; exact rfl)
    | ((with_reducible apply lm_sPL); exact rfl; exact rfl)
    | ((with_reducible apply lm_sAA); exact rfl; first | exact rfl | exact lm_roO (by omega) | exact lm_roM (by omega))
    | ((with_reducible apply lm_sI); exact lm_fpL (by omega))
    | ((with_reducible apply lm_sR); exact lm_fpB (by omega))
    | ((with_reducible apply lm_sP); exact lm_fpL (by omega); exact rfl)
    | ((with_reducible apply lm_sS); exact lm_ocO (by omega); exact rfl)
    | ((with_reducible apply lm_sA); exact rfl; omega)
    | ((with_reducible apply lm_sJ); exact rfl; omega)
    | ((with_reducible apply lm_sB); (first | exact rfl | exact lm_arB (by omega) | exact lm_arM (by omega)); omega)
    | ((with_reducible apply lm_wA); exact rfl; omega)
    | ((with_reducible apply lm_wJ); exact rfl; omega)
    | ((with_reducible apply lm_wB); (first | exact rfl | exact lm_arB (by omega) | exact lm_arM (by omega)); omega)
    | ((with_reducible apply lm_sAl); (first | exact rfl | exact lm_arB (by omega) | exact lm_arM (by omega)); omega)
    | ((with_reducible apply lm_iW); decide))
    simp only [Nat.reduceDiv, Nat.reduceMod]
    rw [f2.1 32 (by omega), lm_u_row (by decide), hm]
    refine lm_selA h1 h2 ?_
    refine lm_cV e3 ?_
    refine lm_iT (show Int32.ofNat 0 = 0 by decide) ?_
    refine lm_ltT (by omega) (by omega) (by omega) ?_
    repeat (first
    | ((with_reducible apply lm_sI); exact rfl)
    | ((with_reducible apply lm_sR); exact rfl)
    | ((with_reducible apply lm_sS); exact rfl; exact rfl)
    | ((with_reducible apply lm_sL); exact rfl)
    | ((with_reducible apply lm_sP); exact rfl; exact rfl)
    | ((with_reducible apply lm_sPL); exact rfl; exact rfl)
    | ((with_reducible apply lm_sAA); exact rfl; first | exact rfl | exact lm_roO (by omega) | exact lm_roM (by omega))
    | ((with_reducible apply lm_sI); exact lm_fpL (by omega))
    | ((with_reducible apply lm_sR); exact lm_fpB (by omega))
    | ((with_reducible apply lm_sP); exact lm_fpL (by omega); exact rfl)
    | ((with_reducible apply lm_sS); exact lm_ocO (by omega); exact rfl)
    | ((with_reducible apply lm_sA); exact rfl; omega)
    | ((with_reducible apply lm_sJ); exact rfl; omega)
    | ((with_reducible apply lm_sB); (first | exact rfl | exact lm_arB (by omega) | exact lm_arM (by omega)); omega)
    | ((with_reducible apply lm_wA); exact rfl; omega)
    | ((with_reducible apply lm_wJ); exact rfl; omega)
    | ((with_reducible apply lm_wB); (first | exact rfl | exact lm_arB (by omega) | exact lm_arM (by omega)); omega)
    | ((with_reducible apply lm_sAl); (first | exact rfl | exact lm_arB (by omega) | exact lm_arM (by omega)); omega)
    | ((with_reducible apply lm_iW); decide))
    simp only [Nat.reduceDiv, Nat.reduceMod]
    have e38 : m3 38 1 = Int32.ofNat (lm_dgl k w) := by rw [(f3.C h1 h2).1 38 (by omega), f2.1 38 (by omega), lm_u_eq]
    rw [e38]
    refine lm_selF h1 h2 ?_
    refine lm_cV e4 ?_
    repeat (first
    | ((with_reducible apply lm_sI); exact rfl)
    | ((with_reducible apply lm_sR); exact rfl)
    | ((with_reducible apply lm_sS); exact rfl; exact rfl)
    | ((with_reducible apply lm_sL); exact rfl)
    | ((with_reducible apply lm_sP); exact rfl; exact rfl)
    | ((with_reducible apply lm_sPL); exact rfl; exact rfl)
    | ((with_reducible apply lm_sAA); exact rfl; first | exact rfl | exact lm_roO (by omega) | exact lm_roM (by omega))
    | ((with_reducible apply lm_sI); exact lm_fpL (by omega))
    | ((with_reducible apply lm_sR); exact lm_fpB (by omega))
    | ((with_reducible apply lm_sP); exact lm_fpL (by omega); exact rfl)
    | ((with_reducible apply lm_sS); exact lm_ocO (by omega); exact rfl)
    | ((with_reducible apply lm_sA); exact rfl; omega)
    | ((with_reducible apply lm_sJ); exact rfl; omega)
    | ((with_reducible apply lm_sB); (first | exact rfl | exact lm_arB (by omega) | exact lm_arM (by omega)); omega)
    | ((with_reducible apply lm_wA); exact rfl; omega)
    | ((with_reducible apply lm_wJ); exact rfl; omega)
    | ((with_reducible apply lm_wB); (first | exact rfl | exact lm_arB (by omega) | exact lm_arM (by omega)); omega)
    | ((with_reducible apply lm_sAl); (first | exact rfl | exact lm_arB (by omega) | exact lm_arM (by omega)); omega)
    | ((with_reducible apply lm_iW); decide))
    simp only [Nat.reduceDiv, Nat.reduceMod]
    rw [lm_fl_row (by decide), (f4.C h1 h2).1 38 (by omega), e38]
    exact rfl
  have t61 : ∀ s0 : Int32, s0 = (if k = 11 ∨ k = 12 then Int32.ofInt 1 else Int32.ofInt 0) → lm_rn (lm_sc xs) (d + 4) lm_m59.2.2.2.2.1 (lm_reg lm_m59.2.2.2.2.2) (42, [(0, .ref 0), (1, .int (Int32.ofNat k)), (2, .int (Int32.ofNat w)), (3, .int (Int32.ofNat k))], [.int s0]) (lm_w m n x) = some (.ok (some (.int (Int32.ofNat (lm_dgl k w)))), lm_w (lm_fil m4 39 0 (lm_dgl k w) (lm_dv m n k 33 l)) n4 x) := by
    intro s0 hs
    refine lm_e59_42 ?_
    unfold lm_q59_42
    rw [lm_K13, lm_K14]
    refine lm_eqF (by omega) (by omega) (by omega) ?_
    refine lm_neT (by omega) (by omega) (by omega) ?_
    refine lm_e59_61 ?_
    unfold lm_q59_61
    rw [lm_K6, lm_K0]
    repeat (first
    | ((with_reducible apply lm_sI); exact rfl)
    | ((with_reducible apply lm_sR); exact rfl)
    | ((with_reducible apply lm_sS); exact rfl; exact rfl)
    | ((with_reducible apply lm_sL); exact rfl)
    | ((with_reducible apply lm_sP); exact rfl; exact rfl)
    | ((with_reducible apply lm_sPL); exact rfl; exact rfl)
    | ((with_reducible apply lm_sAA); exact rfl; first | exact rfl | exact lm_roO (by omega) | exact lm_roM (by omega))
    | ((with_reducible apply lm_sI); exact lm_fpL (by omega))
    | ((with_reducible apply lm_sR); exact lm_fpB (by omega))
    | ((with_reducible apply lm_sP); exact lm_fpL (by omega); exact rfl)
    | ((with_reducible apply lm_sS); exact lm_ocO (by omega); exact rfl)
    | ((with_reducible apply lm_sA); exact rfl; omega)
    | ((with_reducible apply lm_sJ); exact rfl; omega)
    | ((with_reducible apply lm_sB); (first | exact rfl | exact lm_arB (by omega) | exact lm_arM (by omega)); omega)
    | ((with_reducible apply lm_wA); exact rfl; omega)
    | ((with_reducible apply lm_wJ); exact rfl; omega)
    | ((with_reducible apply lm_wB); (first | exact rfl | exact lm_arB (by omega) | exact lm_arM (by omega)); omega)
    | ((with_reducible apply lm_sAl); (first | exact rfl | exact lm_arB (by omega) | exact lm_arM (by omega)); omega)
    | ((with_reducible apply lm_iW); decide))
    by_cases c : k = 11 ∨ k = 12
    · rw [hs, if_pos c]
      refine lm_iF (show ¬ Int32.ofInt 1 = 0 by decide) ?_
      rw [show lm_dgl k w = w by unfold lm_dgl; rw [if_pos c]] at tail ⊢
      exact tail
    · rw [hs, if_neg c]
      refine lm_iT (show Int32.ofInt 0 = 0 by decide) ?_
      refine lm_sSI h1 h2 ?_
      rw [show lm_dgl k w = lm_dg k by unfold lm_dgl; rw [if_neg c]] at tail ⊢
      exact tail
  refine lm_cal_of (Y := lm_m59) rfl rfl (lm_e59_0 ?_)
  unfold lm_q59_0
  refine lm_cV (lm_t132 (d := d + 3) (by rw [lm_K1]; exact (lm_le32 (by omega) (by omega)).mpr (by omega)) (by rw [lm_K16]; exact (lm_le32 (by omega) (by omega)).mpr (by omega))) ?_
  refine lm_cV (lm_t132n (i := w) (n := 65536) (d := d + 3) hw (by decide)) ?_
  refine lm_cI (lm_u137p (d := d + 3) h1 h2) ?_
  rw [lm_K11, lm_K12, lm_K15]
  by_cases c11 : k = 11
  · refine lm_eqT (by omega) (by omega) c11 ?_
    refine lm_e59_37 ?_
    unfold lm_q59_37
    exact t61 _ (by rw [if_pos (Or.inl c11)])
  · refine lm_eqF (by omega) (by omega) c11 ?_
    by_cases c12 : k = 12
    · refine lm_eqT (by omega) (by omega) c12 ?_
      refine lm_e59_37 ?_
      unfold lm_q59_37
      exact t61 _ (by rw [if_pos (Or.inr c12)])
    · refine lm_eqF (by omega) (by omega) c12 ?_
      refine lm_ltT (by omega) (by omega) (by omega) ?_
      exact t61 _ (by rw [if_neg (by omega)])
theorem lm_u20p {sc : lm_H} (h1 : 1 ≤ k) (h2 : k ≤ 12) (hw : w ≤ 65536) (hm : m 214 3 = Int32.ofNat l) (hl : l ≤ 65536) : ∃ m1 n1, lm_cal sc (d + 6) 20 [.ref 203, .int (Int32.ofNat k), .int (Int32.ofNat w)] (lm_w m n x) = some (.ok (some (.int (Int32.ofNat (lm_dgl k w)))), lm_w (lm_u (lm_fil m1 212 0 (lm_dgl k w) (lm_dv m n k 209 l)) 214 6 (Int32.ofNat (lm_dgl k w))) n1 x) ∧ lm_fh (lm_u m 203 4 0) n m1 n1 := by
  have hL := lm_dgl_le (k := k) hw
  have hrp := lm_rate_pos k
  have hkr := lm_kr_rate (k := k) h2
  obtain ⟨m2, n2, e2, C2, f2⟩ := lm_u61 (sc := sc) (d := d + 3) (x := x) (k := k) (m := lm_u m 203 4 0) (n := n) h1 h2
  have tb0 : lm_tb (lm_u m 203 4 0) n = lm_tb m n := by unfold lm_tb; rw [lm_u_row (by decide)]
  have e209 : m2 209 = m 209 := by rw [f2.1 209 (by decide) (by decide), lm_u_row (by decide)]
  rw [lm_u_row (show 227 ≠ 203 by decide)] at C2
  obtain ⟨m3, n3, e3, C3, f3⟩ := lm_u62 (sc := sc) (d := d + 1) (x := x) (q := 209) (v := 65536) (a := 0) (l := l) hkr ⟨by decide, by decide⟩ rfl (by omega) (by omega) (show (0 : Nat) < lm_rate k by omega) C2
  rw [e209, f2.tb, tb0] at C3
  obtain ⟨m4, n4, e4, f4⟩ := lm_u63 (sc := sc) (d := d) (x := x) (q := 212) (v := 65536) (a := 0) (l := lm_dgl k w) hkr hrp ⟨by decide, by decide, by decide⟩ rfl (by omega) (by omega) (fun h6 => by
    have := lm_dg_k h1 h2 h6
    unfold lm_dgl
    rw [if_neg (by omega)]
    exact this) (lm_hps_f _ _ _ (show (0 : Nat) < lm_rate k by omega)) C3
  rw [Nat.zero_add, f3.tb, f2.tb, tb0] at e4
  refine ⟨m4, n4, ?_, (f2.tr f3).tr f4⟩
  have tail : lm_rn sc (d + 5) lm_m20.2.2.2.2.1 (lm_reg lm_m20.2.2.2.2.2) (83, [(0, .ref 203), (1, .int (Int32.ofNat k))], [.int (Int32.ofNat (lm_dgl k w))]) (lm_w (lm_u m 203 4 0) n x) = some (.ok (some (.int (Int32.ofNat (lm_dgl k w)))), lm_w (lm_u (lm_fil m4 212 0 (lm_dgl k w) (lm_dv m n k 209 l)) 214 6 (Int32.ofNat (lm_dgl k w))) n4 x) := by
    refine lm_e20_83 ?_
    unfold lm_q20_83
    rw [lm_K13, lm_K3, lm_K0, lm_K6]
    refine lm_geF (by omega) (by omega) (by omega) ?_
    repeat (first
    | ((with_reducible apply lm_sI); exact rfl)
    | ((with_reducible apply lm_sR); exact rfl)
    | ((with_reducible apply lm_sS); exact rfl; exact rfl)
    | ((with_reducible apply lm_sL); exact rfl)
    | ((with_reducible apply lm_sP); exact rfl; exact rfl)
    | ((with_reducible apply lm_sPL); exact rfl; exact rfl)
    | ((with_reducible apply lm_sAA); exact rfl; first | exact rfl | exact lm_roO (by omega) | exact lm_roM (by omega))
    | ((with_reducible apply lm_sI); exact lm_fpL (by omega))
    | ((with_reducible apply lm_sR); exact lm_fpB (by omega))
    | ((with_reducible apply lm_sP); exact lm_fpL (by omega); exact rfl)
    | ((with_reducible apply lm_sS); exact lm_ocO (by omega); exact rfl)
    | ((with_reducible apply lm_sA); exact rfl; omega)
    | ((with_reducible apply lm_sJ); exact rfl; omega)
    | ((with_reducible apply lm_sB); (first | exact rfl | exact lm_arB (by omega) | exact lm_arM (by omega)); omega)
    | ((with_reducible apply lm_wA); exact rfl; omega)
    | ((with_reducible apply lm_wJ); exact rfl; omega)
    | ((with_reducible apply lm_wB); (first | exact rfl | exact lm_arB (by omega) | exact lm_arM (by omega)); omega)
    | ((with_reducible apply lm_sAl); (first | exact rfl | exact lm_arB (by omega) | exact lm_arM (by omega)); omega)
    | ((with_reducible apply lm_iW); decide))
    refine lm_cV e2 ?_
    repeat (first
    | ((with_reducible apply lm_sI); exact rfl)
    | ((with_reducible apply lm_sR); exact rfl)
    | ((with_reducible apply lm_sS); exact rfl; exact rfl)
    | ((with_reducible apply lm_sL); exact rfl)
    | ((with_reducible apply lm_sP); exact rfl; exact rfl)
    | ((with_reducible apply lm_sPL); exact rfl; exact rfl)
    | ((with_reducible apply lm_sAA); exact rfl; first | exact rfl | exact lm_roO (by omega) | exact lm_roM (by omega))
    | ((with_reducible apply lm_sI); exact lm_fpL (by omega))
    | ((with_reducible apply lm_sR); exact lm_fpB (by omega))
    | ((with_reducible apply lm_sP); exact lm_fpL (by omega); exact rfl)
    | ((with_reducible apply lm_sS); exact lm_ocO (by omega); exact rfl)
    | ((with_reducible apply lm_sA); exact rfl; omega)
    | ((with_reducible apply lm_sJ); exact rfl; omega)
    | ((with_reducible apply lm_sB); (first | exact rfl | exact lm_arB (by omega) | exact lm_arM (by omega)); omega)
    | ((with_reducible apply lm_wA); exact rfl; omega)
    | ((with_reducible apply lm_wJ); exact rfl; omega)
    | ((with_reducible apply lm_wB); (first | exact rfl | exact lm_arB (by omega) | exact lm_arM (by omega)); omega)
    | ((with_reducible apply lm_sAl); (first | exact rfl | exact lm_arB (by omega) | exact lm_arM (by omega)); omega)
    | ((with_reducible apply lm_iW); decide))
    rw [f2.1 214 (by decide) (by decide), lm_u_row (by decide), hm]
    repeat (first
    | ((with_reducible apply lm_sI); exact rfl)
    | ((with_reducible apply lm_sR); exact rfl)
    | ((with_reducible apply lm_sS); exact rfl; exact rfl)
    | ((with_reducible apply lm_sL); exact rfl)
    | ((with_reducible apply lm_sP); exact rfl; exact rfl)
    | ((with_reducible apply lm_sPL); exact rfl; exact rfl)
    | ((with_reducible apply lm_sAA); exact rfl; first | exact rfl | exact lm_roO (by omega) | exact lm_roM (by omega))
    | ((with_reducible apply lm_sI); exact lm_fpL (by omega))
    | ((with_reducible apply lm_sR); exact lm_fpB (by omega))
    | ((with_reducible apply lm_sP); exact lm_fpL (by omega); exact rfl)
    | ((with_reducible apply lm_sS); exact lm_ocO (by omega); exact rfl)
    | ((with_reducible apply lm_sA); exact rfl; omega)
    | ((with_reducible apply lm_sJ); exact rfl; omega)
    | ((with_reducible apply lm_sB); (first | exact rfl | exact lm_arB (by omega) | exact lm_arM (by omega)); omega)
    | ((with_reducible apply lm_wA); exact rfl; omega)
    | ((with_reducible apply lm_wJ); exact rfl; omega)
    | ((with_reducible apply lm_wB); (first | exact rfl | exact lm_arB (by omega) | exact lm_arM (by omega)); omega)
    | ((with_reducible apply lm_sAl); (first | exact rfl | exact lm_arB (by omega) | exact lm_arM (by omega)); omega)
    | ((with_reducible apply lm_iW); decide))
    refine lm_cV e3 ?_
    repeat (first
    | ((with_reducible apply lm_sI); exact rfl)
    | ((with_reducible apply lm_sR); exact rfl)
    | ((with_reducible apply lm_sS); exact rfl; exact rfl)
    | ((with_reducible apply lm_sL); exact rfl)
    | ((with_reducible apply lm_sP); exact rfl; exact rfl)
    | ((with_reducible apply lm_sPL); exact rfl; exact rfl)
    | ((with_reducible apply lm_sAA); exact rfl; first | exact rfl | exact lm_roO (by omega) | exact lm_roM (by omega))
    | ((with_reducible apply lm_sI); exact lm_fpL (by omega))
    | ((with_reducible apply lm_sR); exact lm_fpB (by omega))
    | ((with_reducible apply lm_sP); exact lm_fpL (by omega); exact rfl)
    | ((with_reducible apply lm_sS); exact lm_ocO (by omega); exact rfl)
    | ((with_reducible apply lm_sA); exact rfl; omega)
    | ((with_reducible apply lm_sJ); exact rfl; omega)
    | ((with_reducible apply lm_sB); (first | exact rfl | exact lm_arB (by omega) | exact lm_arM (by omega)); omega)
    | ((with_reducible apply lm_wA); exact rfl; omega)
    | ((with_reducible apply lm_wJ); exact rfl; omega)
    | ((with_reducible apply lm_wB); (first | exact rfl | exact lm_arB (by omega) | exact lm_arM (by omega)); omega)
    | ((with_reducible apply lm_sAl); (first | exact rfl | exact lm_arB (by omega) | exact lm_arM (by omega)); omega)
    | ((with_reducible apply lm_iW); decide))
    refine lm_cV e4 ?_
    refine lm_e20_237 ?_
    unfold lm_q20_237
    rw [lm_K6]
    repeat (first
    | ((with_reducible apply lm_sI); exact rfl)
    | ((with_reducible apply lm_sR); exact rfl)
    | ((with_reducible apply lm_sS); exact rfl; exact rfl)
    | ((with_reducible apply lm_sL); exact rfl)
    | ((with_reducible apply lm_sP); exact rfl; exact rfl)
    | ((with_reducible apply lm_sPL); exact rfl; exact rfl)
    | ((with_reducible apply lm_sAA); exact rfl; first | exact rfl | exact lm_roO (by omega) | exact lm_roM (by omega))
    | ((with_reducible apply lm_sI); exact lm_fpL (by omega))
    | ((with_reducible apply lm_sR); exact lm_fpB (by omega))
    | ((with_reducible apply lm_sP); exact lm_fpL (by omega); exact rfl)
    | ((with_reducible apply lm_sS); exact lm_ocO (by omega); exact rfl)
    | ((with_reducible apply lm_sA); exact rfl; omega)
    | ((with_reducible apply lm_sJ); exact rfl; omega)
    | ((with_reducible apply lm_sB); (first | exact rfl | exact lm_arB (by omega) | exact lm_arM (by omega)); omega)
    | ((with_reducible apply lm_wA); exact rfl; omega)
    | ((with_reducible apply lm_wJ); exact rfl; omega)
    | ((with_reducible apply lm_wB); (first | exact rfl | exact lm_arB (by omega) | exact lm_arM (by omega)); omega)
    | ((with_reducible apply lm_sAl); (first | exact rfl | exact lm_arB (by omega) | exact lm_arM (by omega)); omega)
    | ((with_reducible apply lm_iW); decide))
    exact rfl
  refine lm_cal_of (Y := lm_m20) rfl rfl (lm_e20_0 ?_)
  unfold lm_q20_0
  refine lm_cI (lm_t52t (d := d + 4) ⟨by rw [lm_K1]; exact (lm_le32 (by omega) (by omega)).mpr (by omega), by rw [lm_K16]; exact (lm_le32 (by omega) (by omega)).mpr (by omega)⟩) ?_
  refine lm_iF (show ¬ (1 : Int32) = 0 by decide) ?_
  refine lm_cI (lm_t52n (i := w) (n := 65536) (d := d + 4) hw (by decide)) ?_
  refine lm_iF (show ¬ (1 : Int32) = 0 by decide) ?_
  refine lm_e20_26 ?_
  unfold lm_q20_26
  repeat (first
    | ((with_reducible apply lm_sI); exact rfl)
    | ((with_reducible apply lm_sR); exact rfl)
    | ((with_reducible apply lm_sS); exact rfl; exact rfl)
    | ((with_reducible apply lm_sL); exact rfl)
    | ((with_reducible apply lm_sP); exact rfl; exact rfl)
    | ((with_reducible apply lm_sPL); exact rfl; exact rfl)
    | ((with_reducible apply lm_sAA); exact rfl; first | exact rfl | exact lm_roO (by omega) | exact lm_roM (by omega))
    | ((with_reducible apply lm_sI); exact lm_fpL (by omega))
    | ((with_reducible apply lm_sR); exact lm_fpB (by omega))
    | ((with_reducible apply lm_sP); exact lm_fpL (by omega); exact rfl)
    | ((with_reducible apply lm_sS); exact lm_ocO (by omega); exact rfl)
    | ((with_reducible apply lm_sA); exact rfl; omega)
    | ((with_reducible apply lm_sJ); exact rfl; omega)
    | ((with_reducible apply lm_sB); (first | exact rfl | exact lm_arB (by omega) | exact lm_arM (by omega)); omega)
    | ((with_reducible apply lm_wA); exact rfl; omega)
    | ((with_reducible apply lm_wJ); exact rfl; omega)
    | ((with_reducible apply lm_wB); (first | exact rfl | exact lm_arB (by omega) | exact lm_arM (by omega)); omega)
    | ((with_reducible apply lm_sAl); (first | exact rfl | exact lm_arB (by omega) | exact lm_arM (by omega)); omega)
    | ((with_reducible apply lm_iW); decide))
  refine lm_cI (lm_u49 (d := d + 4) true) ?_
  refine lm_iT (show ¬ (1 : Int32) = 0 by decide) ?_
  rw [lm_K13, lm_K14, lm_K10]
  refine lm_neT (by omega) (by omega) (by omega) ?_
  refine lm_neT (by omega) (by omega) (by omega) ?_
  refine lm_gtF (by omega) (by omega) (by omega) ?_
  by_cases c : k ≤ 10
  · refine lm_leT (by omega) (by omega) c ?_
    refine lm_e20_79 ?_
    unfold lm_q20_79
    refine lm_cI (lm_u60 (d := d + 4) h1 h2) ?_
    rw [show lm_dgl k w = lm_dg k by unfold lm_dgl; rw [if_neg (by omega)]] at tail ⊢
    exact tail
  · refine lm_leF (by omega) (by omega) c ?_
    refine lm_geF (by omega) (by omega) (by omega) ?_
    refine lm_e20_75 ?_
    unfold lm_q20_75
    rw [show lm_dgl k w = w by unfold lm_dgl; rw [if_pos (by omega)]] at tail ⊢
    exact tail
end LMDI
