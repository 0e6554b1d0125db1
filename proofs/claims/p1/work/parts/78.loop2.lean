/-! ===== the law's loop ===== -/
/-- every call of both at a state -/
def lm_Sts (sc : lm_H) (m : lm_MI) (n : lm_ML) (x : lm_H × Nat × Nat) : Prop := (∀ a0 a1 a2 a3 a4 : Int32, lm_Stp sc 2 3 [.int a0, .int a1, .int a2, .int a3, .int a4] m n x) ∧
  (∀ a0 a1 : Int32, lm_Stp sc 5 6 [.int a0, .int a1] m n x) ∧
  (∀ a0 a1 : Int32, lm_Stp sc 7 8 [.int a0, .int a1] m n x) ∧
  (∀ a0 a1 : Int32, lm_Stp sc 9 10 [.int a0, .int a1] m n x) ∧
  (∀ a0 a1 a2 : Int32, lm_Stp sc 11 12 [.int a0, .int a1, .int a2] m n x) ∧
  (∀ a0 : Int32, lm_Stp sc 13 14 [.int a0] m n x) ∧
  (∀ a0 a1 : Int32, lm_StpL sc 15 16 [.int a0, .int a1] m n x) ∧
  (∀ a0 a1 : Int32, lm_StpZ sc 17 18 [.int a0, .int a1] m n x) ∧
  (∀ a0 a1 : Int32, lm_Stp sc 19 20 [.int a0, .int a1] m n x) ∧
  (∀ a0 : Int32, lm_Stp sc 21 22 [.int a0] m n x) ∧
  (∀ a0 : Int32, lm_Stp sc 23 24 [.int a0] m n x) ∧
  (∀ a0 : Int32, lm_Stp sc 25 26 [.int a0] m n x) ∧
  (∀ a0 : Int32, lm_Stp sc 27 28 [.int a0] m n x) ∧
  (∀ a0 a1 : Int32, lm_Stp sc 29 30 [.int a0, .int a1] m n x) ∧
  (∀ a0 a1 : Int32, lm_StpZ sc 31 32 [.int a0, .int a1] m n x) ∧
  (∀ a0 : Int32, lm_Stp sc 33 34 [.int a0] m n x) ∧
  (∀ a0 a1 : Int32, lm_Stp sc 35 36 [.int a0, .int a1] m n x) ∧
  (∀ a0 a1 : Int32, lm_StpZ sc 37 38 [.int a0, .int a1] m n x) ∧
  (∀ a0 a1 a2 a3 a4 : Int32, lm_Stp sc 39 40 [.int a0, .int a1, .int a2, .int a3, .int a4] m n x)
theorem lm_and31 (v : Int32) : ∃ k, k < 32 ∧ v &&& Int32.ofInt 31 = Int32.ofNat k := by
  refine ⟨(v.toBitVec &&& 31#32).toNat, ?_, ?_⟩
  · rw [BitVec.toNat_and]
    exact Nat.lt_of_le_of_lt Nat.and_le_right (by decide)
  · apply Int32.toBitVec_inj.mp
    rw [Int32.toBitVec_and]
    show v.toBitVec &&& 31#32 = BitVec.ofNat 32 (v.toBitVec &&& 31#32).toNat
    rw [BitVec.ofNat_toNat, BitVec.setWidth_eq]
theorem lm_small6 : ∀ l, l < 6 → Int32.ofNat l - Int32.ofInt 6 < Int32.ofNat 0 := by decide
section LMLQ
variable {sc : lm_H} {xs : List Int32} {i : Nat} {m : lm_MI} {n : lm_ML} {x : lm_H × Nat × Nat} {rr : Nat} {r0 : Except Nat lm_R × lm_S}
/-- no call is left -/
theorem lm_done (hs : sc[0]? = some (.inl (0, xs))) (hi : xs.length < i + 6) (hi2 : i ≤ xs.length) (hl : xs.length ≤ 3072) : lm_rn sc 600 [] (lm_reg lm_law) (23, [(0, .ref lm_B), (1, .ref 0), (2, .ref 203), (3, .ref 362), (4, .int (Int32.ofNat i))], []) (lm_w m n x) = some (.ok (some (.int 1)), lm_w m n x) := by
  refine lm_eL_23 ?_
  unfold lm_qL_23
  refine lm_sXl hs ?_
  by_cases h6 : 6 ≤ xs.length
  · rw [show Int32.ofNat xs.length - Int32.ofInt 6 = Int32.ofNat (xs.length - 6) by rw [lm_K6, lm_osu h6]]
    refine lm_gtT (by omega) (by omega) (by omega) ?_
    exact lm_iW (by decide) rfl
  · refine lm_iT (show Int32.ofNat xs.length - Int32.ofInt 6 < Int32.ofNat i from ?_) (lm_iW (by decide) rfl)
    refine Int32.lt_of_lt_of_le (lm_small6 xs.length (by omega)) ((lm_le32 (by omega) (by omega)).mpr (Nat.zero_le _))
/-- one call -/
theorem lm_iter (hs : sc[0]? = some (.inl (0, xs))) (hi : i + 6 ≤ xs.length) (hl : xs.length ≤ 3072) (hr : lm_rmm (rr + 1) x) (ht : lm_Tie m) (st : lm_Sts sc m n x) (K : ∀ m2 n2 x1, lm_Tie m2 → lm_kp m n m2 n2 → lm_rmm rr x1 → ∃ σ, lm_rn sc 600 [] (lm_reg lm_law) (23, [(0, .ref lm_B), (1, .ref 0), (2, .ref 203), (3, .ref 362), (4, .int (Int32.ofNat (i + 6)))], []) (lm_w m2 n2 x1) = some (.ok (some (.int 1)), σ)) : ∃ σ, lm_rn sc 600 [] (lm_reg lm_law) (23, [(0, .ref lm_B), (1, .ref 0), (2, .ref 203), (3, .ref 362), (4, .int (Int32.ofNat i))], []) (lm_w m n x) = some (.ok (some (.int 1)), σ) := by
  have K2 : ∀ m2 n2 x1, lm_Tie m2 → lm_kp m n m2 n2 → lm_rmm rr x1 → ∃ σ, lm_rn sc 600 [] (lm_reg lm_law) (1456, [(0, .ref lm_B), (1, .ref 0), (2, .ref 203), (3, .ref 362), (4, .int (Int32.ofNat i))], []) (lm_w m2 n2 x1) = some (.ok (some (.int 1)), σ) := by
    intro m2 n2 x1 a b c
    obtain ⟨σ, eK⟩ := K m2 n2 x1 a b c
    refine ⟨σ, ?_⟩
    refine lm_eL_1456 ?_
    unfold lm_qL_1456
    rw [show Int32.ofNat i + Int32.ofInt 6 = Int32.ofNat (i + 6) from lm_oa i 6]
    exact eK
  obtain ⟨s0, s1, s2, s3, s4, s5, s6, s7, s8, s9, s10, s11, s12, s13, s14, s15, s16, s17, s18⟩ := st
  have hd : ∀ r0 : Except Nat lm_R × lm_S, ((if ((xs.getD i 0) &&& (Int32.ofInt 31)).toInt < 0 ∨ 18 < ((xs.getD i 0) &&& (Int32.ofInt 31)).toInt then lm_rn sc 600 [] (lm_reg lm_law) (1456, [(0, .ref lm_B), (1, .ref 0), (2, .ref 203), (3, .ref 362), (4, .int (Int32.ofNat i))], []) else lm_opt ((#[92, 196, 264, 332, 400, 480, 536, 603, 678, 746, 802, 858, 914, 970, 1038, 1113, 1169, 1237, 1312] : Array Int)[(((xs.getD i 0) &&& (Int32.ofInt 31)).toInt - 0).toNat]?) fun off => lm_rn sc 600 [] (lm_reg lm_law) (lm_tgt 40 off, [(0, .ref lm_B), (1, .ref 0), (2, .ref 203), (3, .ref 362), (4, .int (Int32.ofNat i))], [])) (lm_w m n x) = some r0) → lm_rn sc 600 [] (lm_reg lm_law) (23, [(0, .ref lm_B), (1, .ref 0), (2, .ref 203), (3, .ref 362), (4, .int (Int32.ofNat i))], []) (lm_w m n x) = some r0 := by
    intro r0 h
    refine lm_eL_23 ?_
    unfold lm_qL_23
    refine lm_sXl hs ?_
    rw [show Int32.ofNat xs.length - Int32.ofInt 6 = Int32.ofNat (xs.length - 6) by rw [lm_K6, lm_osu (by omega)]]
    refine lm_gtF (by omega) (by omega) (by omega) ?_
    refine lm_sX hs (by omega) (by omega) ?_
    exact h
  obtain ⟨k, hk, e⟩ := lm_and31 (xs.getD i 0)
  rw [e] at hd
  have ek : (Int32.ofNat k).toInt = k := lm_ti (by omega)
  by_cases h18 : 18 < k
  · obtain ⟨σ, eK⟩ := K2 m n x ht ⟨fun _ _ => ⟨rfl, rfl⟩, rfl, rfl⟩ (lm_rm_le hr)
    refine ⟨σ, hd _ ?_⟩
    rw [if_pos (by rw [ek]; omega)]
    exact eK
  · match k, h18 with
    | 0, _ =>
      obtain ⟨σ, eK⟩ := lm_lw0 hs hi hl hr (s0 _ _ _ _ _) K2
      refine ⟨σ, hd _ ?_⟩
      rw [if_neg (by decide)]
      exact eK
    | 1, _ =>
      obtain ⟨σ, eK⟩ := lm_lw1 hs hi hl hr (s1 _ _) K2
      refine ⟨σ, hd _ ?_⟩
      rw [if_neg (by decide)]
      exact eK
    | 2, _ =>
      obtain ⟨σ, eK⟩ := lm_lw2 hs hi hl hr (s2 _ _) K2
      refine ⟨σ, hd _ ?_⟩
      rw [if_neg (by decide)]
      exact eK
    | 3, _ =>
      obtain ⟨σ, eK⟩ := lm_lw3 hs hi hl hr (s3 _ _) K2
      refine ⟨σ, hd _ ?_⟩
      rw [if_neg (by decide)]
      exact eK
    | 4, _ =>
      obtain ⟨σ, eK⟩ := lm_lw4 hs hi hl hr (s4 _ _ _) K2
      refine ⟨σ, hd _ ?_⟩
      rw [if_neg (by decide)]
      exact eK
    | 5, _ =>
      obtain ⟨σ, eK⟩ := lm_lw5 hs hi hl hr (s5 _) K2
      refine ⟨σ, hd _ ?_⟩
      rw [if_neg (by decide)]
      exact eK
    | 6, _ =>
      obtain ⟨σ, eK⟩ := lm_lw6 hs hi hl hr (s6 _ _) K2
      refine ⟨σ, hd _ ?_⟩
      rw [if_neg (by decide)]
      exact eK
    | 7, _ =>
      obtain ⟨σ, eK⟩ := lm_lw7 hs hi hl hr (s7 _ _) K2
      refine ⟨σ, hd _ ?_⟩
      rw [if_neg (by decide)]
      exact eK
    | 8, _ =>
      obtain ⟨σ, eK⟩ := lm_lw8 hs hi hl hr (s8 _ _) K2
      refine ⟨σ, hd _ ?_⟩
      rw [if_neg (by decide)]
      exact eK
    | 9, _ =>
      obtain ⟨σ, eK⟩ := lm_lw9 hs hi hl hr (s9 _) K2
      refine ⟨σ, hd _ ?_⟩
      rw [if_neg (by decide)]
      exact eK
    | 10, _ =>
      obtain ⟨σ, eK⟩ := lm_lw10 hs hi hl hr (s10 _) K2
      refine ⟨σ, hd _ ?_⟩
      rw [if_neg (by decide)]
      exact eK
    | 11, _ =>
      obtain ⟨σ, eK⟩ := lm_lw11 hs hi hl hr (s11 _) K2
      refine ⟨σ, hd _ ?_⟩
      rw [if_neg (by decide)]
      exact eK
    | 12, _ =>
      obtain ⟨σ, eK⟩ := lm_lw12 hs hi hl hr (s12 _) K2
      refine ⟨σ, hd _ ?_⟩
      rw [if_neg (by decide)]
      exact eK
    | 13, _ =>
      obtain ⟨σ, eK⟩ := lm_lw13 hs hi hl hr (s13 _ _) K2
      refine ⟨σ, hd _ ?_⟩
      rw [if_neg (by decide)]
      exact eK
    | 14, _ =>
      obtain ⟨σ, eK⟩ := lm_lw14 hs hi hl hr (s14 _ _) K2
      refine ⟨σ, hd _ ?_⟩
      rw [if_neg (by decide)]
      exact eK
    | 15, _ =>
      obtain ⟨σ, eK⟩ := lm_lw15 hs hi hl hr (s15 _) K2
      refine ⟨σ, hd _ ?_⟩
      rw [if_neg (by decide)]
      exact eK
    | 16, _ =>
      obtain ⟨σ, eK⟩ := lm_lw16 hs hi hl hr (s16 _ _) K2
      refine ⟨σ, hd _ ?_⟩
      rw [if_neg (by decide)]
      exact eK
    | 17, _ =>
      obtain ⟨σ, eK⟩ := lm_lw17 hs hi hl hr (s17 _ _) K2
      refine ⟨σ, hd _ ?_⟩
      rw [if_neg (by decide)]
      exact eK
    | 18, _ =>
      obtain ⟨σ, eK⟩ := lm_lw18 hs hi hl hr (s18 _ _ _ _ _) K2
      refine ⟨σ, hd _ ?_⟩
      rw [if_neg (by decide)]
      exact eK
    | k + 19, h => exact absurd h (by omega)
/-- all calls -/
theorem lm_loop {I : lm_MI → lm_ML → Prop} (hs : sc[0]? = some (.inl (0, xs))) (hl : xs.length ≤ 3072) (st : ∀ m n x, I m n → lm_Tie m → lm_Sts sc m n x) (hI : ∀ m n m2 n2, I m n → lm_kp m n m2 n2 → I m2 n2) : ∀ c i m n x, i + 6 * c ≤ 3072 → i ≤ xs.length → xs.length < i + 6 * c + 6 → I m n → lm_Tie m → lm_rmm (c + 1) x → ∃ σ, lm_rn sc 600 [] (lm_reg lm_law) (23, [(0, .ref lm_B), (1, .ref 0), (2, .ref 203), (3, .ref 362), (4, .int (Int32.ofNat i))], []) (lm_w m n x) = some (.ok (some (.int 1)), σ) := by
  intro c
  induction c with
  | zero =>
    intro i m n x h1 h2 h3 _ _ _
    exact ⟨_, lm_done hs (by omega) h2 hl⟩
  | succ c ih =>
    intro i m n x h1 h2 h3 hi ht hr
    by_cases h6 : i + 6 ≤ xs.length
    · exact lm_iter hs h6 hl hr ht (st m n x hi ht) (fun m2 n2 x1 a b d => ih (i + 6) m2 n2 x1 (by omega) (by omega) (by omega) (hI m n m2 n2 hi b) a d)
    · exact ⟨_, lm_done hs (by omega) h2 hl⟩
end LMLQ
