/-! ===== printed by my program: the law's nineteen calls ===== -/
section LMLO
variable {β : Type} {sc : lm_H} {σ : lm_S} {xs : List Int32} {a : Nat} {r : Option (Except Nat β × lm_S)}
/-- the script -/
theorem lm_sX {f : Int32 → lm_M β} (hs : sc[0]? = some (.inl (0, xs))) (ha : a < xs.length) (hl : xs.length ≤ 1000000) (k : f (xs.getD a 0) σ = r) : lm_bind (lm_iald sc lm_B (Int32.ofNat a)) f σ = r := by
  rw [← k]
  exact lm_bd_ok (lm_iald_ok (h := σ.1) (s := σ.2) ((lm_cell_s 0).trans hs) ha hl)
theorem lm_sXl {f : Int32 → lm_M β} (hs : sc[0]? = some (.inl (0, xs))) (k : f (Int32.ofNat xs.length) σ = r) : lm_bind (lm_alen sc lm_B) f σ = r := by
  rw [← k]
  refine lm_bd_ok ?_
  unfold lm_alen
  rw [show lm_cell sc σ.1 lm_B = some (.inl (0, xs)) from (lm_cell_s 0).trans hs]
  rfl
end LMLO
section LMLP
variable {sc : lm_H} {xs : List Int32} {i : Nat} {m : lm_MI} {n : lm_ML} {x : lm_H × Nat × Nat} {rr : Nat} {r0 : Except Nat lm_R × lm_S}
theorem lm_lw0 (hs : sc[0]? = some (.inl (0, xs))) (hi : i + 6 ≤ xs.length) (hl : xs.length ≤ 3072) (hr : lm_rmm (rr + 1) x) (st : lm_Stp sc 2 3 [.int (xs.getD (i + 1) 0), .int (xs.getD (i + 2) 0), .int (xs.getD (i + 3) 0), .int (xs.getD (i + 4) 0), .int (xs.getD (i + 5) 0)] m n x) (K : ∀ m2 n2 x1, lm_Tie m2 → lm_kp m n m2 n2 → lm_rmm rr x1 → ∃ σ, lm_rn sc 600 [] (lm_reg lm_law) (1456, [(0, .ref lm_B), (1, .ref 0), (2, .ref 203), (3, .ref 362), (4, .int (Int32.ofNat i))], []) (lm_w m2 n2 x1) = some (.ok (some (.int 1)), σ)) : ∃ σ, lm_rn sc 600 [] (lm_reg lm_law) (132, [(0, .ref lm_B), (1, .ref 0), (2, .ref 203), (3, .ref 362), (4, .int (Int32.ofNat i))], []) (lm_w m n x) = some (.ok (some (.int 1)), σ) := by
  obtain ⟨k, b, m1, n1, x1, m2, n2, e1, e2, e3, e4, e5, e6, e7⟩ := st rr hr
  obtain ⟨σ, eK⟩ := K m2 n2 x1 e5 e6 e7
  refine ⟨σ, ?_⟩
  have fin : lm_rn sc 600 [] (lm_reg lm_law) (233, [(0, .ref lm_B), (1, .ref 0), (2, .ref 203), (3, .ref 362), (4, .int (Int32.ofNat i))], []) (lm_w m2 n2 x1) = some (.ok (some (.int 1)), σ) := by
    refine lm_eL_233 ?_
    unfold lm_qL_233
    exact eK
  refine lm_eL_132 ?_
  unfold lm_qL_132
  simp only [lm_K1, lm_K2, lm_K3, lm_K4, lm_K5, lm_K0, lm_oo]
  refine lm_sX hs (by omega) (by omega) ?_
  refine lm_sX hs (by omega) (by omega) ?_
  refine lm_sX hs (by omega) (by omega) ?_
  refine lm_sX hs (by omega) (by omega) ?_
  refine lm_sX hs (by omega) (by omega) ?_
  refine lm_cI e1 ?_
  refine lm_sX hs (by omega) (by omega) ?_
  refine lm_sX hs (by omega) (by omega) ?_
  refine lm_sX hs (by omega) (by omega) ?_
  refine lm_sX hs (by omega) (by omega) ?_
  refine lm_sX hs (by omega) (by omega) ?_
  refine lm_sS (c := 11) (y := 3) rfl rfl ?_
  refine lm_cI e2 ?_
  refine lm_sS (c := 11) (y := 4) rfl rfl ?_
  refine lm_cI (lm_u4 (d := 599)) ?_
  rw [e3]
  refine lm_iT (show k = k from rfl) ?_
  by_cases hk : k = 0
  · refine lm_iF (show ¬ ¬ k = 0 from fun g => g hk) ?_
    refine lm_rO e7.2.2.2 ?_
    rw [e4 hk]
    exact lm_iT (lm_ce.mpr rfl) fin
  · exact lm_iT (show ¬ k = 0 from hk) fin
theorem lm_lw1 (hs : sc[0]? = some (.inl (0, xs))) (hi : i + 6 ≤ xs.length) (hl : xs.length ≤ 3072) (hr : lm_rmm (rr + 1) x) (st : lm_Stp sc 5 6 [.int (xs.getD (i + 1) 0), .int (xs.getD (i + 2) 0)] m n x) (K : ∀ m2 n2 x1, lm_Tie m2 → lm_kp m n m2 n2 → lm_rmm rr x1 → ∃ σ, lm_rn sc 600 [] (lm_reg lm_law) (1456, [(0, .ref lm_B), (1, .ref 0), (2, .ref 203), (3, .ref 362), (4, .int (Int32.ofNat i))], []) (lm_w m2 n2 x1) = some (.ok (some (.int 1)), σ)) : ∃ σ, lm_rn sc 600 [] (lm_reg lm_law) (236, [(0, .ref lm_B), (1, .ref 0), (2, .ref 203), (3, .ref 362), (4, .int (Int32.ofNat i))], []) (lm_w m n x) = some (.ok (some (.int 1)), σ) := by
  obtain ⟨k, b, m1, n1, x1, m2, n2, e1, e2, e3, e4, e5, e6, e7⟩ := st rr hr
  obtain ⟨σ, eK⟩ := K m2 n2 x1 e5 e6 e7
  refine ⟨σ, ?_⟩
  have fin : lm_rn sc 600 [] (lm_reg lm_law) (301, [(0, .ref lm_B), (1, .ref 0), (2, .ref 203), (3, .ref 362), (4, .int (Int32.ofNat i))], []) (lm_w m2 n2 x1) = some (.ok (some (.int 1)), σ) := by
    refine lm_eL_301 ?_
    unfold lm_qL_301
    exact eK
  refine lm_eL_236 ?_
  unfold lm_qL_236
  simp only [lm_K1, lm_K2, lm_K0, lm_oo]
  refine lm_sX hs (by omega) (by omega) ?_
  refine lm_sX hs (by omega) (by omega) ?_
  refine lm_cI e1 ?_
  refine lm_sX hs (by omega) (by omega) ?_
  refine lm_sX hs (by omega) (by omega) ?_
  refine lm_sS (c := 11) (y := 6) rfl rfl ?_
  refine lm_cI e2 ?_
  refine lm_sS (c := 11) (y := 4) rfl rfl ?_
  refine lm_cI (lm_u4 (d := 599)) ?_
  rw [e3]
  refine lm_iT (show k = k from rfl) ?_
  by_cases hk : k = 0
  · refine lm_iF (show ¬ ¬ k = 0 from fun g => g hk) ?_
    refine lm_rO e7.2.2.2 ?_
    rw [e4 hk]
    exact lm_iT (lm_ce.mpr rfl) fin
  · exact lm_iT (show ¬ k = 0 from hk) fin
theorem lm_lw2 (hs : sc[0]? = some (.inl (0, xs))) (hi : i + 6 ≤ xs.length) (hl : xs.length ≤ 3072) (hr : lm_rmm (rr + 1) x) (st : lm_Stp sc 7 8 [.int (xs.getD (i + 1) 0), .int (xs.getD (i + 2) 0)] m n x) (K : ∀ m2 n2 x1, lm_Tie m2 → lm_kp m n m2 n2 → lm_rmm rr x1 → ∃ σ, lm_rn sc 600 [] (lm_reg lm_law) (1456, [(0, .ref lm_B), (1, .ref 0), (2, .ref 203), (3, .ref 362), (4, .int (Int32.ofNat i))], []) (lm_w m2 n2 x1) = some (.ok (some (.int 1)), σ)) : ∃ σ, lm_rn sc 600 [] (lm_reg lm_law) (304, [(0, .ref lm_B), (1, .ref 0), (2, .ref 203), (3, .ref 362), (4, .int (Int32.ofNat i))], []) (lm_w m n x) = some (.ok (some (.int 1)), σ) := by
  obtain ⟨k, b, m1, n1, x1, m2, n2, e1, e2, e3, e4, e5, e6, e7⟩ := st rr hr
  obtain ⟨σ, eK⟩ := K m2 n2 x1 e5 e6 e7
  refine ⟨σ, ?_⟩
  have fin : lm_rn sc 600 [] (lm_reg lm_law) (369, [(0, .ref lm_B), (1, .ref 0), (2, .ref 203), (3, .ref 362), (4, .int (Int32.ofNat i))], []) (lm_w m2 n2 x1) = some (.ok (some (.int 1)), σ) := by
    refine lm_eL_369 ?_
    unfold lm_qL_369
    exact eK
  refine lm_eL_304 ?_
  unfold lm_qL_304
  simp only [lm_K1, lm_K2, lm_K0, lm_oo]
  refine lm_sX hs (by omega) (by omega) ?_
  refine lm_sX hs (by omega) (by omega) ?_
  refine lm_cI e1 ?_
  refine lm_sX hs (by omega) (by omega) ?_
  refine lm_sX hs (by omega) (by omega) ?_
  refine lm_sS (c := 11) (y := 8) rfl rfl ?_
  refine lm_cI e2 ?_
  refine lm_sS (c := 11) (y := 4) rfl rfl ?_
  refine lm_cI (lm_u4 (d := 599)) ?_
  rw [e3]
  refine lm_iT (show k = k from rfl) ?_
  by_cases hk : k = 0
  · refine lm_iF (show ¬ ¬ k = 0 from fun g => g hk) ?_
    refine lm_rO e7.2.2.2 ?_
    rw [e4 hk]
    exact lm_iT (lm_ce.mpr rfl) fin
  · exact lm_iT (show ¬ k = 0 from hk) fin
theorem lm_lw3 (hs : sc[0]? = some (.inl (0, xs))) (hi : i + 6 ≤ xs.length) (hl : xs.length ≤ 3072) (hr : lm_rmm (rr + 1) x) (st : lm_Stp sc 9 10 [.int (xs.getD (i + 1) 0), .int (xs.getD (i + 2) 0)] m n x) (K : ∀ m2 n2 x1, lm_Tie m2 → lm_kp m n m2 n2 → lm_rmm rr x1 → ∃ σ, lm_rn sc 600 [] (lm_reg lm_law) (1456, [(0, .ref lm_B), (1, .ref 0), (2, .ref 203), (3, .ref 362), (4, .int (Int32.ofNat i))], []) (lm_w m2 n2 x1) = some (.ok (some (.int 1)), σ)) : ∃ σ, lm_rn sc 600 [] (lm_reg lm_law) (372, [(0, .ref lm_B), (1, .ref 0), (2, .ref 203), (3, .ref 362), (4, .int (Int32.ofNat i))], []) (lm_w m n x) = some (.ok (some (.int 1)), σ) := by
  obtain ⟨k, b, m1, n1, x1, m2, n2, e1, e2, e3, e4, e5, e6, e7⟩ := st rr hr
  obtain ⟨σ, eK⟩ := K m2 n2 x1 e5 e6 e7
  refine ⟨σ, ?_⟩
  have fin : lm_rn sc 600 [] (lm_reg lm_law) (437, [(0, .ref lm_B), (1, .ref 0), (2, .ref 203), (3, .ref 362), (4, .int (Int32.ofNat i))], []) (lm_w m2 n2 x1) = some (.ok (some (.int 1)), σ) := by
    refine lm_eL_437 ?_
    unfold lm_qL_437
    exact eK
  refine lm_eL_372 ?_
  unfold lm_qL_372
  simp only [lm_K1, lm_K2, lm_K0, lm_oo]
  refine lm_sX hs (by omega) (by omega) ?_
  refine lm_sX hs (by omega) (by omega) ?_
  refine lm_cI e1 ?_
  refine lm_sX hs (by omega) (by omega) ?_
  refine lm_sX hs (by omega) (by omega) ?_
  refine lm_sS (c := 11) (y := 10) rfl rfl ?_
  refine lm_cI e2 ?_
  refine lm_sS (c := 11) (y := 4) rfl rfl ?_
  refine lm_cI (lm_u4 (d := 599)) ?_
  rw [e3]
  refine lm_iT (show k = k from rfl) ?_
  by_cases hk : k = 0
  · refine lm_iF (show ¬ ¬ k = 0 from fun g => g hk) ?_
    refine lm_rO e7.2.2.2 ?_
    rw [e4 hk]
    exact lm_iT (lm_ce.mpr rfl) fin
  · exact lm_iT (show ¬ k = 0 from hk) fin
theorem lm_lw4 (hs : sc[0]? = some (.inl (0, xs))) (hi : i + 6 ≤ xs.length) (hl : xs.length ≤ 3072) (hr : lm_rmm (rr + 1) x) (st : lm_Stp sc 11 12 [.int (xs.getD (i + 1) 0), .int (xs.getD (i + 2) 0), .int (xs.getD (i + 3) 0)] m n x) (K : ∀ m2 n2 x1, lm_Tie m2 → lm_kp m n m2 n2 → lm_rmm rr x1 → ∃ σ, lm_rn sc 600 [] (lm_reg lm_law) (1456, [(0, .ref lm_B), (1, .ref 0), (2, .ref 203), (3, .ref 362), (4, .int (Int32.ofNat i))], []) (lm_w m2 n2 x1) = some (.ok (some (.int 1)), σ)) : ∃ σ, lm_rn sc 600 [] (lm_reg lm_law) (440, [(0, .ref lm_B), (1, .ref 0), (2, .ref 203), (3, .ref 362), (4, .int (Int32.ofNat i))], []) (lm_w m n x) = some (.ok (some (.int 1)), σ) := by
  obtain ⟨k, b, m1, n1, x1, m2, n2, e1, e2, e3, e4, e5, e6, e7⟩ := st rr hr
  obtain ⟨σ, eK⟩ := K m2 n2 x1 e5 e6 e7
  refine ⟨σ, ?_⟩
  have fin : lm_rn sc 600 [] (lm_reg lm_law) (517, [(0, .ref lm_B), (1, .ref 0), (2, .ref 203), (3, .ref 362), (4, .int (Int32.ofNat i))], []) (lm_w m2 n2 x1) = some (.ok (some (.int 1)), σ) := by
    refine lm_eL_517 ?_
    unfold lm_qL_517
    exact eK
  refine lm_eL_440 ?_
  unfold lm_qL_440
  simp only [lm_K1, lm_K2, lm_K3, lm_K0, lm_oo]
  refine lm_sX hs (by omega) (by omega) ?_
  refine lm_sX hs (by omega) (by omega) ?_
  refine lm_sX hs (by omega) (by omega) ?_
  refine lm_cI e1 ?_
  refine lm_sX hs (by omega) (by omega) ?_
  refine lm_sX hs (by omega) (by omega) ?_
  refine lm_sX hs (by omega) (by omega) ?_
  refine lm_sS (c := 11) (y := 12) rfl rfl ?_
  refine lm_cI e2 ?_
  refine lm_sS (c := 11) (y := 4) rfl rfl ?_
  refine lm_cI (lm_u4 (d := 599)) ?_
  rw [e3]
  refine lm_iT (show k = k from rfl) ?_
  by_cases hk : k = 0
  · refine lm_iF (show ¬ ¬ k = 0 from fun g => g hk) ?_
    refine lm_rO e7.2.2.2 ?_
    rw [e4 hk]
    exact lm_iT (lm_ce.mpr rfl) fin
  · exact lm_iT (show ¬ k = 0 from hk) fin
theorem lm_lw5 (hs : sc[0]? = some (.inl (0, xs))) (hi : i + 6 ≤ xs.length) (hl : xs.length ≤ 3072) (hr : lm_rmm (rr + 1) x) (st : lm_Stp sc 13 14 [.int (xs.getD (i + 1) 0)] m n x) (K : ∀ m2 n2 x1, lm_Tie m2 → lm_kp m n m2 n2 → lm_rmm rr x1 → ∃ σ, lm_rn sc 600 [] (lm_reg lm_law) (1456, [(0, .ref lm_B), (1, .ref 0), (2, .ref 203), (3, .ref 362), (4, .int (Int32.ofNat i))], []) (lm_w m2 n2 x1) = some (.ok (some (.int 1)), σ)) : ∃ σ, lm_rn sc 600 [] (lm_reg lm_law) (520, [(0, .ref lm_B), (1, .ref 0), (2, .ref 203), (3, .ref 362), (4, .int (Int32.ofNat i))], []) (lm_w m n x) = some (.ok (some (.int 1)), σ) := by
  obtain ⟨k, b, m1, n1, x1, m2, n2, e1, e2, e3, e4, e5, e6, e7⟩ := st rr hr
  obtain ⟨σ, eK⟩ := K m2 n2 x1 e5 e6 e7
  refine ⟨σ, ?_⟩
  have fin : lm_rn sc 600 [] (lm_reg lm_law) (573, [(0, .ref lm_B), (1, .ref 0), (2, .ref 203), (3, .ref 362), (4, .int (Int32.ofNat i))], []) (lm_w m2 n2 x1) = some (.ok (some (.int 1)), σ) := by
    refine lm_eL_573 ?_
    unfold lm_qL_573
    exact eK
  refine lm_eL_520 ?_
  unfold lm_qL_520
  simp only [lm_K1, lm_K0, lm_oo]
  refine lm_sX hs (by omega) (by omega) ?_
  refine lm_cI e1 ?_
  refine lm_sX hs (by omega) (by omega) ?_
  refine lm_sS (c := 11) (y := 14) rfl rfl ?_
  refine lm_cI e2 ?_
  refine lm_sS (c := 11) (y := 4) rfl rfl ?_
  refine lm_cI (lm_u4 (d := 599)) ?_
  rw [e3]
  refine lm_iT (show k = k from rfl) ?_
  by_cases hk : k = 0
  · refine lm_iF (show ¬ ¬ k = 0 from fun g => g hk) ?_
    refine lm_rO e7.2.2.2 ?_
    rw [e4 hk]
    exact lm_iT (lm_ce.mpr rfl) fin
  · exact lm_iT (show ¬ k = 0 from hk) fin
theorem lm_lw6 (hs : sc[0]? = some (.inl (0, xs))) (hi : i + 6 ≤ xs.length) (hl : xs.length ≤ 3072) (hr : lm_rmm (rr + 1) x) (st : lm_StpL sc 15 16 [.int (xs.getD (i + 1) 0), .int (xs.getD (i + 2) 0)] m n x) (K : ∀ m2 n2 x1, lm_Tie m2 → lm_kp m n m2 n2 → lm_rmm rr x1 → ∃ σ, lm_rn sc 600 [] (lm_reg lm_law) (1456, [(0, .ref lm_B), (1, .ref 0), (2, .ref 203), (3, .ref 362), (4, .int (Int32.ofNat i))], []) (lm_w m2 n2 x1) = some (.ok (some (.int 1)), σ)) : ∃ σ, lm_rn sc 600 [] (lm_reg lm_law) (576, [(0, .ref lm_B), (1, .ref 0), (2, .ref 203), (3, .ref 362), (4, .int (Int32.ofNat i))], []) (lm_w m n x) = some (.ok (some (.int 1)), σ) := by
  obtain ⟨k, b, m1, n1, x1, m2, n2, e1, e2, e3, e4, e5, e6, e7⟩ := st rr hr
  obtain ⟨σ, eK⟩ := K m2 n2 x1 e5 e6 e7
  refine ⟨σ, ?_⟩
  have fin : lm_rn sc 600 [] (lm_reg lm_law) (640, [(0, .ref lm_B), (1, .ref 0), (2, .ref 203), (3, .ref 362), (4, .int (Int32.ofNat i))], []) (lm_w m2 n2 x1) = some (.ok (some (.int 1)), σ) := by
    refine lm_eL_640 ?_
    unfold lm_qL_640
    exact eK
  refine lm_eL_576 ?_
  unfold lm_qL_576
  simp only [lm_K1, lm_K2, lm_K0, lm_oo]
  refine lm_sX hs (by omega) (by omega) ?_
  refine lm_sX hs (by omega) (by omega) ?_
  refine lm_cI e1 ?_
  refine lm_sX hs (by omega) (by omega) ?_
  refine lm_sX hs (by omega) (by omega) ?_
  refine lm_sS (c := 11) (y := 16) rfl rfl ?_
  refine lm_cLg e2 ?_
  refine lm_sS (c := 11) (y := 4) rfl rfl ?_
  refine lm_cI (lm_u4 (d := 599)) ?_
  rw [e3]
  refine lm_iT (show k = k from rfl) ?_
  by_cases hk : k = 0
  · refine lm_iF (show ¬ ¬ k = 0 from fun g => g hk) ?_
    refine lm_rO e7.2.2.2 ?_
    rw [e4 hk]
    exact lm_iT (lm_ce.mpr rfl) fin
  · exact lm_iT (show ¬ k = 0 from hk) fin
theorem lm_lw7 (hs : sc[0]? = some (.inl (0, xs))) (hi : i + 6 ≤ xs.length) (hl : xs.length ≤ 3072) (hr : lm_rmm (rr + 1) x) (st : lm_StpZ sc 17 18 [.int (xs.getD (i + 1) 0), .int (xs.getD (i + 2) 0)] m n x) (K : ∀ m2 n2 x1, lm_Tie m2 → lm_kp m n m2 n2 → lm_rmm rr x1 → ∃ σ, lm_rn sc 600 [] (lm_reg lm_law) (1456, [(0, .ref lm_B), (1, .ref 0), (2, .ref 203), (3, .ref 362), (4, .int (Int32.ofNat i))], []) (lm_w m2 n2 x1) = some (.ok (some (.int 1)), σ)) : ∃ σ, lm_rn sc 600 [] (lm_reg lm_law) (643, [(0, .ref lm_B), (1, .ref 0), (2, .ref 203), (3, .ref 362), (4, .int (Int32.ofNat i))], []) (lm_w m n x) = some (.ok (some (.int 1)), σ) := by
  obtain ⟨k, b, m1, n1, x1, m2, n2, e1, e2, e3, e4, e5, e6, e7⟩ := st rr hr
  obtain ⟨σ, eK⟩ := K m2 n2 x1 e5 e6 e7
  refine ⟨σ, ?_⟩
  have fin : lm_rn sc 600 [] (lm_reg lm_law) (715, [(0, .ref lm_B), (1, .ref 0), (2, .ref 203), (3, .ref 362), (4, .int (Int32.ofNat i))], []) (lm_w m2 n2 x1) = some (.ok (some (.int 1)), σ) := by
    refine lm_eL_715 ?_
    unfold lm_qL_715
    exact eK
  refine lm_eL_643 ?_
  unfold lm_qL_643
  simp only [lm_K1, lm_K2, lm_K0, lm_oo]
  refine lm_sX hs (by omega) (by omega) ?_
  refine lm_sX hs (by omega) (by omega) ?_
  refine lm_cI e1 ?_
  refine lm_sX hs (by omega) (by omega) ?_
  refine lm_sX hs (by omega) (by omega) ?_
  refine lm_sS (c := 11) (y := 18) rfl rfl ?_
  refine lm_cI e2 ?_
  refine lm_sS (c := 11) (y := 4) rfl rfl ?_
  refine lm_cI (lm_u4 (d := 599)) ?_
  rw [e3]
  refine lm_iT (show k = k from rfl) ?_
  by_cases hk : k = 0
  · refine lm_iF (show ¬ ¬ k = 0 from fun g => g hk) ?_
    refine lm_rO e7.2.2.2 ?_
    rw [e4 hk]
    cases b with
    | false =>
      refine lm_iT (show (0 : Int32) = 0 by decide) ?_
      refine lm_eL_709 ?_
      unfold lm_qL_709
      exact lm_iT (lm_ce.mpr rfl) fin
    | true =>
      refine lm_iF (show ¬ (1 : Int32) = 0 by decide) ?_
      refine lm_eL_709 ?_
      unfold lm_qL_709
      exact lm_iT (lm_ce.mpr rfl) fin
  · exact lm_iT (show ¬ k = 0 from hk) fin
theorem lm_lw8 (hs : sc[0]? = some (.inl (0, xs))) (hi : i + 6 ≤ xs.length) (hl : xs.length ≤ 3072) (hr : lm_rmm (rr + 1) x) (st : lm_Stp sc 19 20 [.int (xs.getD (i + 1) 0), .int (xs.getD (i + 2) 0)] m n x) (K : ∀ m2 n2 x1, lm_Tie m2 → lm_kp m n m2 n2 → lm_rmm rr x1 → ∃ σ, lm_rn sc 600 [] (lm_reg lm_law) (1456, [(0, .ref lm_B), (1, .ref 0), (2, .ref 203), (3, .ref 362), (4, .int (Int32.ofNat i))], []) (lm_w m2 n2 x1) = some (.ok (some (.int 1)), σ)) : ∃ σ, lm_rn sc 600 [] (lm_reg lm_law) (718, [(0, .ref lm_B), (1, .ref 0), (2, .ref 203), (3, .ref 362), (4, .int (Int32.ofNat i))], []) (lm_w m n x) = some (.ok (some (.int 1)), σ) := by
  obtain ⟨k, b, m1, n1, x1, m2, n2, e1, e2, e3, e4, e5, e6, e7⟩ := st rr hr
  obtain ⟨σ, eK⟩ := K m2 n2 x1 e5 e6 e7
  refine ⟨σ, ?_⟩
  have fin : lm_rn sc 600 [] (lm_reg lm_law) (783, [(0, .ref lm_B), (1, .ref 0), (2, .ref 203), (3, .ref 362), (4, .int (Int32.ofNat i))], []) (lm_w m2 n2 x1) = some (.ok (some (.int 1)), σ) := by
    refine lm_eL_783 ?_
    unfold lm_qL_783
    exact eK
  refine lm_eL_718 ?_
  unfold lm_qL_718
  simp only [lm_K1, lm_K2, lm_K0, lm_oo]
  refine lm_sX hs (by omega) (by omega) ?_
  refine lm_sX hs (by omega) (by omega) ?_
  refine lm_cI e1 ?_
  refine lm_sX hs (by omega) (by omega) ?_
  refine lm_sX hs (by omega) (by omega) ?_
  refine lm_sS (c := 11) (y := 20) rfl rfl ?_
  refine lm_cI e2 ?_
  refine lm_sS (c := 11) (y := 4) rfl rfl ?_
  refine lm_cI (lm_u4 (d := 599)) ?_
  rw [e3]
  refine lm_iT (show k = k from rfl) ?_
  by_cases hk : k = 0
  · refine lm_iF (show ¬ ¬ k = 0 from fun g => g hk) ?_
    refine lm_rO e7.2.2.2 ?_
    rw [e4 hk]
    exact lm_iT (lm_ce.mpr rfl) fin
  · exact lm_iT (show ¬ k = 0 from hk) fin
theorem lm_lw9 (hs : sc[0]? = some (.inl (0, xs))) (hi : i + 6 ≤ xs.length) (hl : xs.length ≤ 3072) (hr : lm_rmm (rr + 1) x) (st : lm_Stp sc 21 22 [.int (xs.getD (i + 1) 0)] m n x) (K : ∀ m2 n2 x1, lm_Tie m2 → lm_kp m n m2 n2 → lm_rmm rr x1 → ∃ σ, lm_rn sc 600 [] (lm_reg lm_law) (1456, [(0, .ref lm_B), (1, .ref 0), (2, .ref 203), (3, .ref 362), (4, .int (Int32.ofNat i))], []) (lm_w m2 n2 x1) = some (.ok (some (.int 1)), σ)) : ∃ σ, lm_rn sc 600 [] (lm_reg lm_law) (786, [(0, .ref lm_B), (1, .ref 0), (2, .ref 203), (3, .ref 362), (4, .int (Int32.ofNat i))], []) (lm_w m n x) = some (.ok (some (.int 1)), σ) := by
  obtain ⟨k, b, m1, n1, x1, m2, n2, e1, e2, e3, e4, e5, e6, e7⟩ := st rr hr
  obtain ⟨σ, eK⟩ := K m2 n2 x1 e5 e6 e7
  refine ⟨σ, ?_⟩
  have fin : lm_rn sc 600 [] (lm_reg lm_law) (839, [(0, .ref lm_B), (1, .ref 0), (2, .ref 203), (3, .ref 362), (4, .int (Int32.ofNat i))], []) (lm_w m2 n2 x1) = some (.ok (some (.int 1)), σ) := by
    refine lm_eL_839 ?_
    unfold lm_qL_839
    exact eK
  refine lm_eL_786 ?_
  unfold lm_qL_786
  simp only [lm_K1, lm_K0, lm_oo]
  refine lm_sX hs (by omega) (by omega) ?_
  refine lm_cI e1 ?_
  refine lm_sX hs (by omega) (by omega) ?_
  refine lm_sS (c := 11) (y := 22) rfl rfl ?_
  refine lm_cI e2 ?_
  refine lm_sS (c := 11) (y := 4) rfl rfl ?_
  refine lm_cI (lm_u4 (d := 599)) ?_
  rw [e3]
  refine lm_iT (show k = k from rfl) ?_
  by_cases hk : k = 0
  · refine lm_iF (show ¬ ¬ k = 0 from fun g => g hk) ?_
    refine lm_rO e7.2.2.2 ?_
    rw [e4 hk]
    exact lm_iT (lm_ce.mpr rfl) fin
  · exact lm_iT (show ¬ k = 0 from hk) fin
theorem lm_lw10 (hs : sc[0]? = some (.inl (0, xs))) (hi : i + 6 ≤ xs.length) (hl : xs.length ≤ 3072) (hr : lm_rmm (rr + 1) x) (st : lm_Stp sc 23 24 [.int (xs.getD (i + 1) 0)] m n x) (K : ∀ m2 n2 x1, lm_Tie m2 → lm_kp m n m2 n2 → lm_rmm rr x1 → ∃ σ, lm_rn sc 600 [] (lm_reg lm_law) (1456, [(0, .ref lm_B), (1, .ref 0), (2, .ref 203), (3, .ref 362), (4, .int (Int32.ofNat i))], []) (lm_w m2 n2 x1) = some (.ok (some (.int 1)), σ)) : ∃ σ, lm_rn sc 600 [] (lm_reg lm_law) (842, [(0, .ref lm_B), (1, .ref 0), (2, .ref 203), (3, .ref 362), (4, .int (Int32.ofNat i))], []) (lm_w m n x) = some (.ok (some (.int 1)), σ) := by
  obtain ⟨k, b, m1, n1, x1, m2, n2, e1, e2, e3, e4, e5, e6, e7⟩ := st rr hr
  obtain ⟨σ, eK⟩ := K m2 n2 x1 e5 e6 e7
  refine ⟨σ, ?_⟩
  have fin : lm_rn sc 600 [] (lm_reg lm_law) (895, [(0, .ref lm_B), (1, .ref 0), (2, .ref 203), (3, .ref 362), (4, .int (Int32.ofNat i))], []) (lm_w m2 n2 x1) = some (.ok (some (.int 1)), σ) := by
    refine lm_eL_895 ?_
    unfold lm_qL_895
    exact eK
  refine lm_eL_842 ?_
  unfold lm_qL_842
  simp only [lm_K1, lm_K0, lm_oo]
  refine lm_sX hs (by omega) (by omega) ?_
  refine lm_cI e1 ?_
  refine lm_sX hs (by omega) (by omega) ?_
  refine lm_sS (c := 11) (y := 24) rfl rfl ?_
  refine lm_cI e2 ?_
  refine lm_sS (c := 11) (y := 4) rfl rfl ?_
  refine lm_cI (lm_u4 (d := 599)) ?_
  rw [e3]
  refine lm_iT (show k = k from rfl) ?_
  by_cases hk : k = 0
  · refine lm_iF (show ¬ ¬ k = 0 from fun g => g hk) ?_
    refine lm_rO e7.2.2.2 ?_
    rw [e4 hk]
    exact lm_iT (lm_ce.mpr rfl) fin
  · exact lm_iT (show ¬ k = 0 from hk) fin
theorem lm_lw11 (hs : sc[0]? = some (.inl (0, xs))) (hi : i + 6 ≤ xs.length) (hl : xs.length ≤ 3072) (hr : lm_rmm (rr + 1) x) (st : lm_Stp sc 25 26 [.int (xs.getD (i + 1) 0)] m n x) (K : ∀ m2 n2 x1, lm_Tie m2 → lm_kp m n m2 n2 → lm_rmm rr x1 → ∃ σ, lm_rn sc 600 [] (lm_reg lm_law) (1456, [(0, .ref lm_B), (1, .ref 0), (2, .ref 203), (3, .ref 362), (4, .int (Int32.ofNat i))], []) (lm_w m2 n2 x1) = some (.ok (some (.int 1)), σ)) : ∃ σ, lm_rn sc 600 [] (lm_reg lm_law) (898, [(0, .ref lm_B), (1, .ref 0), (2, .ref 203), (3, .ref 362), (4, .int (Int32.ofNat i))], []) (lm_w m n x) = some (.ok (some (.int 1)), σ) := by
  obtain ⟨k, b, m1, n1, x1, m2, n2, e1, e2, e3, e4, e5, e6, e7⟩ := st rr hr
  obtain ⟨σ, eK⟩ := K m2 n2 x1 e5 e6 e7
  refine ⟨σ, ?_⟩
  have fin : lm_rn sc 600 [] (lm_reg lm_law) (951, [(0, .ref lm_B), (1, .ref 0), (2, .ref 203), (3, .ref 362), (4, .int (Int32.ofNat i))], []) (lm_w m2 n2 x1) = some (.ok (some (.int 1)), σ) := by
    refine lm_eL_951 ?_
    unfold lm_qL_951
    exact eK
  refine lm_eL_898 ?_
  unfold lm_qL_898
  simp only [lm_K1, lm_K0, lm_oo]
  refine lm_sX hs (by omega) (by omega) ?_
  refine lm_cI e1 ?_
  refine lm_sX hs (by omega) (by omega) ?_
  refine lm_sS (c := 11) (y := 26) rfl rfl ?_
  refine lm_cI e2 ?_
  refine lm_sS (c := 11) (y := 4) rfl rfl ?_
  refine lm_cI (lm_u4 (d := 599)) ?_
  rw [e3]
  refine lm_iT (show k = k from rfl) ?_
  by_cases hk : k = 0
  · refine lm_iF (show ¬ ¬ k = 0 from fun g => g hk) ?_
    refine lm_rO e7.2.2.2 ?_
    rw [e4 hk]
    exact lm_iT (lm_ce.mpr rfl) fin
  · exact lm_iT (show ¬ k = 0 from hk) fin
theorem lm_lw12 (hs : sc[0]? = some (.inl (0, xs))) (hi : i + 6 ≤ xs.length) (hl : xs.length ≤ 3072) (hr : lm_rmm (rr + 1) x) (st : lm_Stp sc 27 28 [.int (xs.getD (i + 1) 0)] m n x) (K : ∀ m2 n2 x1, lm_Tie m2 → lm_kp m n m2 n2 → lm_rmm rr x1 → ∃ σ, lm_rn sc 600 [] (lm_reg lm_law) (1456, [(0, .ref lm_B), (1, .ref 0), (2, .ref 203), (3, .ref 362), (4, .int (Int32.ofNat i))], []) (lm_w m2 n2 x1) = some (.ok (some (.int 1)), σ)) : ∃ σ, lm_rn sc 600 [] (lm_reg lm_law) (954, [(0, .ref lm_B), (1, .ref 0), (2, .ref 203), (3, .ref 362), (4, .int (Int32.ofNat i))], []) (lm_w m n x) = some (.ok (some (.int 1)), σ) := by
  obtain ⟨k, b, m1, n1, x1, m2, n2, e1, e2, e3, e4, e5, e6, e7⟩ := st rr hr
  obtain ⟨σ, eK⟩ := K m2 n2 x1 e5 e6 e7
  refine ⟨σ, ?_⟩
  have fin : lm_rn sc 600 [] (lm_reg lm_law) (1007, [(0, .ref lm_B), (1, .ref 0), (2, .ref 203), (3, .ref 362), (4, .int (Int32.ofNat i))], []) (lm_w m2 n2 x1) = some (.ok (some (.int 1)), σ) := by
    refine lm_eL_1007 ?_
    unfold lm_qL_1007
    exact eK
  refine lm_eL_954 ?_
  unfold lm_qL_954
  simp only [lm_K1, lm_K0, lm_oo]
  refine lm_sX hs (by omega) (by omega) ?_
  refine lm_cI e1 ?_
  refine lm_sX hs (by omega) (by omega) ?_
  refine lm_sS (c := 11) (y := 28) rfl rfl ?_
  refine lm_cI e2 ?_
  refine lm_sS (c := 11) (y := 4) rfl rfl ?_
  refine lm_cI (lm_u4 (d := 599)) ?_
  rw [e3]
  refine lm_iT (show k = k from rfl) ?_
  by_cases hk : k = 0
  · refine lm_iF (show ¬ ¬ k = 0 from fun g => g hk) ?_
    refine lm_rO e7.2.2.2 ?_
    rw [e4 hk]
    exact lm_iT (lm_ce.mpr rfl) fin
  · exact lm_iT (show ¬ k = 0 from hk) fin
theorem lm_lw13 (hs : sc[0]? = some (.inl (0, xs))) (hi : i + 6 ≤ xs.length) (hl : xs.length ≤ 3072) (hr : lm_rmm (rr + 1) x) (st : lm_Stp sc 29 30 [.int (xs.getD (i + 1) 0), .int (xs.getD (i + 2) 0)] m n x) (K : ∀ m2 n2 x1, lm_Tie m2 → lm_kp m n m2 n2 → lm_rmm rr x1 → ∃ σ, lm_rn sc 600 [] (lm_reg lm_law) (1456, [(0, .ref lm_B), (1, .ref 0), (2, .ref 203), (3, .ref 362), (4, .int (Int32.ofNat i))], []) (lm_w m2 n2 x1) = some (.ok (some (.int 1)), σ)) : ∃ σ, lm_rn sc 600 [] (lm_reg lm_law) (1010, [(0, .ref lm_B), (1, .ref 0), (2, .ref 203), (3, .ref 362), (4, .int (Int32.ofNat i))], []) (lm_w m n x) = some (.ok (some (.int 1)), σ) := by
  obtain ⟨k, b, m1, n1, x1, m2, n2, e1, e2, e3, e4, e5, e6, e7⟩ := st rr hr
  obtain ⟨σ, eK⟩ := K m2 n2 x1 e5 e6 e7
  refine ⟨σ, ?_⟩
  have fin : lm_rn sc 600 [] (lm_reg lm_law) (1075, [(0, .ref lm_B), (1, .ref 0), (2, .ref 203), (3, .ref 362), (4, .int (Int32.ofNat i))], []) (lm_w m2 n2 x1) = some (.ok (some (.int 1)), σ) := by
    refine lm_eL_1075 ?_
    unfold lm_qL_1075
    exact eK
  refine lm_eL_1010 ?_
  unfold lm_qL_1010
  simp only [lm_K1, lm_K2, lm_K0, lm_oo]
  refine lm_sX hs (by omega) (by omega) ?_
  refine lm_sX hs (by omega) (by omega) ?_
  refine lm_cI e1 ?_
  refine lm_sX hs (by omega) (by omega) ?_
  refine lm_sX hs (by omega) (by omega) ?_
  refine lm_sS (c := 11) (y := 30) rfl rfl ?_
  refine lm_cI e2 ?_
  refine lm_sS (c := 11) (y := 4) rfl rfl ?_
  refine lm_cI (lm_u4 (d := 599)) ?_
  rw [e3]
  refine lm_iT (show k = k from rfl) ?_
  by_cases hk : k = 0
  · refine lm_iF (show ¬ ¬ k = 0 from fun g => g hk) ?_
    refine lm_rO e7.2.2.2 ?_
    rw [e4 hk]
    exact lm_iT (lm_ce.mpr rfl) fin
  · exact lm_iT (show ¬ k = 0 from hk) fin
theorem lm_lw14 (hs : sc[0]? = some (.inl (0, xs))) (hi : i + 6 ≤ xs.length) (hl : xs.length ≤ 3072) (hr : lm_rmm (rr + 1) x) (st : lm_StpZ sc 31 32 [.int (xs.getD (i + 1) 0), .int (xs.getD (i + 2) 0)] m n x) (K : ∀ m2 n2 x1, lm_Tie m2 → lm_kp m n m2 n2 → lm_rmm rr x1 → ∃ σ, lm_rn sc 600 [] (lm_reg lm_law) (1456, [(0, .ref lm_B), (1, .ref 0), (2, .ref 203), (3, .ref 362), (4, .int (Int32.ofNat i))], []) (lm_w m2 n2 x1) = some (.ok (some (.int 1)), σ)) : ∃ σ, lm_rn sc 600 [] (lm_reg lm_law) (1078, [(0, .ref lm_B), (1, .ref 0), (2, .ref 203), (3, .ref 362), (4, .int (Int32.ofNat i))], []) (lm_w m n x) = some (.ok (some (.int 1)), σ) := by
  obtain ⟨k, b, m1, n1, x1, m2, n2, e1, e2, e3, e4, e5, e6, e7⟩ := st rr hr
  obtain ⟨σ, eK⟩ := K m2 n2 x1 e5 e6 e7
  refine ⟨σ, ?_⟩
  have fin : lm_rn sc 600 [] (lm_reg lm_law) (1150, [(0, .ref lm_B), (1, .ref 0), (2, .ref 203), (3, .ref 362), (4, .int (Int32.ofNat i))], []) (lm_w m2 n2 x1) = some (.ok (some (.int 1)), σ) := by
    refine lm_eL_1150 ?_
    unfold lm_qL_1150
    exact eK
  refine lm_eL_1078 ?_
  unfold lm_qL_1078
  simp only [lm_K1, lm_K2, lm_K0, lm_oo]
  refine lm_sX hs (by omega) (by omega) ?_
  refine lm_sX hs (by omega) (by omega) ?_
  refine lm_cI e1 ?_
  refine lm_sX hs (by omega) (by omega) ?_
  refine lm_sX hs (by omega) (by omega) ?_
  refine lm_sS (c := 11) (y := 32) rfl rfl ?_
  refine lm_cI e2 ?_
  refine lm_sS (c := 11) (y := 4) rfl rfl ?_
  refine lm_cI (lm_u4 (d := 599)) ?_
  rw [e3]
  refine lm_iT (show k = k from rfl) ?_
  by_cases hk : k = 0
  · refine lm_iF (show ¬ ¬ k = 0 from fun g => g hk) ?_
    refine lm_rO e7.2.2.2 ?_
    rw [e4 hk]
    cases b with
    | false =>
      refine lm_iT (show (0 : Int32) = 0 by decide) ?_
      refine lm_eL_1144 ?_
      unfold lm_qL_1144
      exact lm_iT (lm_ce.mpr rfl) fin
    | true =>
      refine lm_iF (show ¬ (1 : Int32) = 0 by decide) ?_
      refine lm_eL_1144 ?_
      unfold lm_qL_1144
      exact lm_iT (lm_ce.mpr rfl) fin
  · exact lm_iT (show ¬ k = 0 from hk) fin
theorem lm_lw15 (hs : sc[0]? = some (.inl (0, xs))) (hi : i + 6 ≤ xs.length) (hl : xs.length ≤ 3072) (hr : lm_rmm (rr + 1) x) (st : lm_Stp sc 33 34 [.int (xs.getD (i + 1) 0)] m n x) (K : ∀ m2 n2 x1, lm_Tie m2 → lm_kp m n m2 n2 → lm_rmm rr x1 → ∃ σ, lm_rn sc 600 [] (lm_reg lm_law) (1456, [(0, .ref lm_B), (1, .ref 0), (2, .ref 203), (3, .ref 362), (4, .int (Int32.ofNat i))], []) (lm_w m2 n2 x1) = some (.ok (some (.int 1)), σ)) : ∃ σ, lm_rn sc 600 [] (lm_reg lm_law) (1153, [(0, .ref lm_B), (1, .ref 0), (2, .ref 203), (3, .ref 362), (4, .int (Int32.ofNat i))], []) (lm_w m n x) = some (.ok (some (.int 1)), σ) := by
  obtain ⟨k, b, m1, n1, x1, m2, n2, e1, e2, e3, e4, e5, e6, e7⟩ := st rr hr
  obtain ⟨σ, eK⟩ := K m2 n2 x1 e5 e6 e7
  refine ⟨σ, ?_⟩
  have fin : lm_rn sc 600 [] (lm_reg lm_law) (1206, [(0, .ref lm_B), (1, .ref 0), (2, .ref 203), (3, .ref 362), (4, .int (Int32.ofNat i))], []) (lm_w m2 n2 x1) = some (.ok (some (.int 1)), σ) := by
    refine lm_eL_1206 ?_
    unfold lm_qL_1206
    exact eK
  refine lm_eL_1153 ?_
  unfold lm_qL_1153
  simp only [lm_K1, lm_K0, lm_oo]
  refine lm_sX hs (by omega) (by omega) ?_
  refine lm_cI e1 ?_
  refine lm_sX hs (by omega) (by omega) ?_
  refine lm_sS (c := 11) (y := 34) rfl rfl ?_
  refine lm_cI e2 ?_
  refine lm_sS (c := 11) (y := 4) rfl rfl ?_
  refine lm_cI (lm_u4 (d := 599)) ?_
  rw [e3]
  refine lm_iT (show k = k from rfl) ?_
  by_cases hk : k = 0
  · refine lm_iF (show ¬ ¬ k = 0 from fun g => g hk) ?_
    refine lm_rO e7.2.2.2 ?_
    rw [e4 hk]
    exact lm_iT (lm_ce.mpr rfl) fin
  · exact lm_iT (show ¬ k = 0 from hk) fin
theorem lm_lw16 (hs : sc[0]? = some (.inl (0, xs))) (hi : i + 6 ≤ xs.length) (hl : xs.length ≤ 3072) (hr : lm_rmm (rr + 1) x) (st : lm_Stp sc 35 36 [.int (xs.getD (i + 1) 0), .int (xs.getD (i + 2) 0)] m n x) (K : ∀ m2 n2 x1, lm_Tie m2 → lm_kp m n m2 n2 → lm_rmm rr x1 → ∃ σ, lm_rn sc 600 [] (lm_reg lm_law) (1456, [(0, .ref lm_B), (1, .ref 0), (2, .ref 203), (3, .ref 362), (4, .int (Int32.ofNat i))], []) (lm_w m2 n2 x1) = some (.ok (some (.int 1)), σ)) : ∃ σ, lm_rn sc 600 [] (lm_reg lm_law) (1209, [(0, .ref lm_B), (1, .ref 0), (2, .ref 203), (3, .ref 362), (4, .int (Int32.ofNat i))], []) (lm_w m n x) = some (.ok (some (.int 1)), σ) := by
  obtain ⟨k, b, m1, n1, x1, m2, n2, e1, e2, e3, e4, e5, e6, e7⟩ := st rr hr
  obtain ⟨σ, eK⟩ := K m2 n2 x1 e5 e6 e7
  refine ⟨σ, ?_⟩
  have fin : lm_rn sc 600 [] (lm_reg lm_law) (1274, [(0, .ref lm_B), (1, .ref 0), (2, .ref 203), (3, .ref 362), (4, .int (Int32.ofNat i))], []) (lm_w m2 n2 x1) = some (.ok (some (.int 1)), σ) := by
    refine lm_eL_1274 ?_
    unfold lm_qL_1274
    exact eK
  refine lm_eL_1209 ?_
  unfold lm_qL_1209
  simp only [lm_K1, lm_K2, lm_K0, lm_oo]
  refine lm_sX hs (by omega) (by omega) ?_
  refine lm_sX hs (by omega) (by omega) ?_
  refine lm_cI e1 ?_
  refine lm_sX hs (by omega) (by omega) ?_
  refine lm_sX hs (by omega) (by omega) ?_
  refine lm_sS (c := 11) (y := 36) rfl rfl ?_
  refine lm_cI e2 ?_
  refine lm_sS (c := 11) (y := 4) rfl rfl ?_
  refine lm_cI (lm_u4 (d := 599)) ?_
  rw [e3]
  refine lm_iT (show k = k from rfl) ?_
  by_cases hk : k = 0
  · refine lm_iF (show ¬ ¬ k = 0 from fun g => g hk) ?_
    refine lm_rO e7.2.2.2 ?_
    rw [e4 hk]
    exact lm_iT (lm_ce.mpr rfl) fin
  · exact lm_iT (show ¬ k = 0 from hk) fin
theorem lm_lw17 (hs : sc[0]? = some (.inl (0, xs))) (hi : i + 6 ≤ xs.length) (hl : xs.length ≤ 3072) (hr : lm_rmm (rr + 1) x) (st : lm_StpZ sc 37 38 [.int (xs.getD (i + 1) 0), .int (xs.getD (i + 2) 0)] m n x) (K : ∀ m2 n2 x1, lm_Tie m2 → lm_kp m n m2 n2 → lm_rmm rr x1 → ∃ σ, lm_rn sc 600 [] (lm_reg lm_law) (1456, [(0, .ref lm_B), (1, .ref 0), (2, .ref 203), (3, .ref 362), (4, .int (Int32.ofNat i))], []) (lm_w m2 n2 x1) = some (.ok (some (.int 1)), σ)) : ∃ σ, lm_rn sc 600 [] (lm_reg lm_law) (1277, [(0, .ref lm_B), (1, .ref 0), (2, .ref 203), (3, .ref 362), (4, .int (Int32.ofNat i))], []) (lm_w m n x) = some (.ok (some (.int 1)), σ) := by
  obtain ⟨k, b, m1, n1, x1, m2, n2, e1, e2, e3, e4, e5, e6, e7⟩ := st rr hr
  obtain ⟨σ, eK⟩ := K m2 n2 x1 e5 e6 e7
  refine ⟨σ, ?_⟩
  have fin : lm_rn sc 600 [] (lm_reg lm_law) (1349, [(0, .ref lm_B), (1, .ref 0), (2, .ref 203), (3, .ref 362), (4, .int (Int32.ofNat i))], []) (lm_w m2 n2 x1) = some (.ok (some (.int 1)), σ) := by
    refine lm_eL_1349 ?_
    unfold lm_qL_1349
    exact eK
  refine lm_eL_1277 ?_
  unfold lm_qL_1277
  simp only [lm_K1, lm_K2, lm_K0, lm_oo]
  refine lm_sX hs (by omega) (by omega) ?_
  refine lm_sX hs (by omega) (by omega) ?_
  refine lm_cI e1 ?_
  refine lm_sX hs (by omega) (by omega) ?_
  refine lm_sX hs (by omega) (by omega) ?_
  refine lm_sS (c := 11) (y := 38) rfl rfl ?_
  refine lm_cI e2 ?_
  refine lm_sS (c := 11) (y := 4) rfl rfl ?_
  refine lm_cI (lm_u4 (d := 599)) ?_
  rw [e3]
  refine lm_iT (show k = k from rfl) ?_
  by_cases hk : k = 0
  · refine lm_iF (show ¬ ¬ k = 0 from fun g => g hk) ?_
    refine lm_rO e7.2.2.2 ?_
    rw [e4 hk]
    cases b with
    | false =>
      refine lm_iT (show (0 : Int32) = 0 by decide) ?_
      refine lm_eL_1343 ?_
      unfold lm_qL_1343
      exact lm_iT (lm_ce.mpr rfl) fin
    | true =>
      refine lm_iF (show ¬ (1 : Int32) = 0 by decide) ?_
      refine lm_eL_1343 ?_
      unfold lm_qL_1343
      exact lm_iT (lm_ce.mpr rfl) fin
  · exact lm_iT (show ¬ k = 0 from hk) fin
theorem lm_lw18 (hs : sc[0]? = some (.inl (0, xs))) (hi : i + 6 ≤ xs.length) (hl : xs.length ≤ 3072) (hr : lm_rmm (rr + 1) x) (st : lm_Stp sc 39 40 [.int (xs.getD (i + 1) 0), .int (xs.getD (i + 2) 0), .int (xs.getD (i + 3) 0), .int (xs.getD (i + 4) 0), .int (xs.getD (i + 5) 0)] m n x) (K : ∀ m2 n2 x1, lm_Tie m2 → lm_kp m n m2 n2 → lm_rmm rr x1 → ∃ σ, lm_rn sc 600 [] (lm_reg lm_law) (1456, [(0, .ref lm_B), (1, .ref 0), (2, .ref 203), (3, .ref 362), (4, .int (Int32.ofNat i))], []) (lm_w m2 n2 x1) = some (.ok (some (.int 1)), σ)) : ∃ σ, lm_rn sc 600 [] (lm_reg lm_law) (1352, [(0, .ref lm_B), (1, .ref 0), (2, .ref 203), (3, .ref 362), (4, .int (Int32.ofNat i))], []) (lm_w m n x) = some (.ok (some (.int 1)), σ) := by
  obtain ⟨k, b, m1, n1, x1, m2, n2, e1, e2, e3, e4, e5, e6, e7⟩ := st rr hr
  obtain ⟨σ, eK⟩ := K m2 n2 x1 e5 e6 e7
  refine ⟨σ, ?_⟩
  have fin : lm_rn sc 600 [] (lm_reg lm_law) (1453, [(0, .ref lm_B), (1, .ref 0), (2, .ref 203), (3, .ref 362), (4, .int (Int32.ofNat i))], []) (lm_w m2 n2 x1) = some (.ok (some (.int 1)), σ) := by
    refine lm_eL_1453 ?_
    unfold lm_qL_1453
    exact eK
  refine lm_eL_1352 ?_
  unfold lm_qL_1352
  simp only [lm_K1, lm_K2, lm_K3, lm_K4, lm_K5, lm_K0, lm_oo]
  refine lm_sX hs (by omega) (by omega) ?_
  refine lm_sX hs (by omega) (by omega) ?_
  refine lm_sX hs (by omega) (by omega) ?_
  refine lm_sX hs (by omega) (by omega) ?_
  refine lm_sX hs (by omega) (by omega) ?_
  refine lm_cI e1 ?_
  refine lm_sX hs (by omega) (by omega) ?_
  refine lm_sX hs (by omega) (by omega) ?_
  refine lm_sX hs (by omega) (by omega) ?_
  refine lm_sX hs (by omega) (by omega) ?_
  refine lm_sX hs (by omega) (by omega) ?_
  refine lm_sS (c := 11) (y := 40) rfl rfl ?_
  refine lm_cI e2 ?_
  refine lm_sS (c := 11) (y := 4) rfl rfl ?_
  refine lm_cI (lm_u4 (d := 599)) ?_
  rw [e3]
  refine lm_iT (show k = k from rfl) ?_
  by_cases hk : k = 0
  · refine lm_iF (show ¬ ¬ k = 0 from fun g => g hk) ?_
    refine lm_rO e7.2.2.2 ?_
    rw [e4 hk]
    exact lm_iT (lm_ce.mpr rfl) fin
  · exact lm_iT (show ¬ k = 0 from hk) fin
end LMLP
