/-! ===== the starts of SHA-512/224 and SHA-512/256 ===== -/
/-- the schedule as a list, the newest word first -/
def lm_wL : Nat → List Int64 → List Int64
  | 0, l => l
  | k + 1, l => lm_wL k ((((((lm_rgt (l.getD 1 0) (Int32.ofInt 19) ^^^ lm_rgt (l.getD 1 0) (Int32.ofInt 61)) ^^^ (lm_uL (l.getD 1 0) (Int32.ofInt 6))) + l.getD 6 0) + ((lm_rgt (l.getD 14 0) (Int32.ofInt 1) ^^^ lm_rgt (l.getD 14 0) (Int32.ofInt 8)) ^^^ (lm_uL (l.getD 14 0) (Int32.ofInt 7)))) + l.getD 15 0) :: l)
def lm_n512 (a b : Nat) : Nat → Int32 := fun i => ([Int32.ofInt 83, Int32.ofInt 72, Int32.ofInt 65, Int32.ofInt 45, Int32.ofInt 53, Int32.ofInt 49, Int32.ofInt 50, Int32.ofInt 47, Int32.ofInt 50, Int32.ofNat a, Int32.ofNat b] ++ [Int32.ofInt 128]).getD i 0
def lm_b512 (a b : Nat) : Nat → Int32 := fun i => if i < 12 then lm_n512 a b i else if i = 127 then Int32.ofInt 88 else Int32.ofInt 0
def lm_s512 : Nat → Int64 := fun i => (lm_lst 2).getD i 0 ^^^ (Int64.ofNat 11936128518282651045)
def lm_lW16 (a b : Nat) : List Int64 := [lm_bw (lm_b512 a b) 15, lm_bw (lm_b512 a b) 14, lm_bw (lm_b512 a b) 13, lm_bw (lm_b512 a b) 12, lm_bw (lm_b512 a b) 11, lm_bw (lm_b512 a b) 10, lm_bw (lm_b512 a b) 9, lm_bw (lm_b512 a b) 8, lm_bw (lm_b512 a b) 7, lm_bw (lm_b512 a b) 6, lm_bw (lm_b512 a b) 5, lm_bw (lm_b512 a b) 4, lm_bw (lm_b512 a b) 3, lm_bw (lm_b512 a b) 2, lm_bw (lm_b512 a b) 1, lm_bw (lm_b512 a b) 0]
def lm_evh (a b : Nat) : lm_T8 := lm_r5 (fun t => (lm_lst 5).getD t 0) (fun t => ((lm_wL 64 (lm_lW16 a b)).getD (79 - t) 0)) 80 0 (lm_of8 lm_s512)
theorem lm_evh4 : ∀ i, i < 8 → lm_add8 lm_s512 (lm_evh 50 52) i = (lm_lst 3).getD i 0 := by decide +kernel
theorem lm_evh6 : ∀ i, i < 8 → lm_add8 lm_s512 (lm_evh 53 54) i = (lm_lst 4).getD i 0 := by decide +kernel
theorem lm_wL_ok {b : Nat → Int32} : ∀ k j (l : List Int64), (∀ t, t < 16 + j → l.getD (15 + j - t) 0 = lm_wsc b j t) → ∀ t, t < 16 + (j + k) → (lm_wL k l).getD (15 + (j + k) - t) 0 = lm_wsc b (j + k) t := by
  intro k
  induction k with
  | zero => intro j l h; exact h
  | succ k ih =>
    intro j l h
    have H := ih (j + 1) (lm_sg (lm_wsc b j) (16 + j) :: l) (fun t ht => by
      show _ = if t = 16 + j then lm_sg (lm_wsc b j) (16 + j) else lm_wsc b j t
      by_cases c : t = 16 + j
      · rw [if_pos c, show 15 + (j + 1) - t = 0 by omega]
        rfl
      · rw [if_neg c, show 15 + (j + 1) - t = (15 + j - t) + 1 by omega]
        exact h t (by omega))
    rw [show j + (k + 1) = j + 1 + k by omega]
    have e : lm_wL (k + 1) l = lm_wL k (lm_sg (lm_wsc b j) (16 + j) :: l) := by
      show lm_wL k (_ :: l) = _
      unfold lm_sg
      rw [← h (16 + j - 2) (by omega), ← h (16 + j - 7) (by omega), ← h (16 + j - 15) (by omega), ← h (16 + j - 16) (by omega), show 15 + j - (16 + j - 2) = 1 by omega, show 15 + j - (16 + j - 7) = 6 by omega, show 15 + j - (16 + j - 15) = 14 by omega, show 15 + j - (16 + j - 16) = 15 by omega]
    rw [e]
    exact H
theorem lm_lW_ok {a b : Nat} : ∀ t, t < 16 → (lm_lW16 a b).getD (15 - t) 0 = lm_bw (lm_b512 a b) t := by
  intro t ht
  match t, ht with
  | 0, _ => rfl
  | 1, _ => rfl
  | 2, _ => rfl
  | 3, _ => rfl
  | 4, _ => rfl
  | 5, _ => rfl
  | 6, _ => rfl
  | 7, _ => rfl
  | 8, _ => rfl
  | 9, _ => rfl
  | 10, _ => rfl
  | 11, _ => rfl
  | 12, _ => rfl
  | 13, _ => rfl
  | 14, _ => rfl
  | 15, _ => rfl
  | t + 16, h => exact absurd h (by omega)
theorem lm_cc512 {a b : Nat} : lm_cc5 (fun t => (lm_lst 5).getD t 0) lm_s512 (lm_b512 a b) = lm_add8 lm_s512 (lm_evh a b) := by
  unfold lm_cc5 lm_evh
  rw [lm_r5_lo (K := fun t => (lm_lst 5).getD t 0) (fun _ _ => rfl) (W' := fun t => ((lm_wL 64 (lm_lW16 a b)).getD (79 - t) 0)) (fun t ht => (lm_wL_ok 64 0 (lm_lW16 a b) lm_lW_ok t (by omega)).symm) 80 0 _ (by decide)]
theorem lm_gl88 : ∀ j, j < 16 → lm_b8 (lm_gl (Int64.ofNat 8 * (Int64.ofNat 0 + Int64.ofNat 11)) j) = lm_b8 (if j = 0 then Int32.ofInt 88 else Int32.ofInt 0) := by decide
theorem lm_nm_S {T : lm_TB} {R J : Nat → Int64} {bb : Nat → Int32} {a b : Nat} (h5 : ∀ t, t < 80 → T.2.2 t = (lm_lst 5).getD t 0) (hR : ∀ i, i < 16 → R i = (lm_lst 2).getD i 0) : ∀ i, i < 8 → (lm_nm T a b (0, Int64.ofNat 0, lm_nx (lm_st0' R lm_zL lm_zL 3 J), bb)).2.2.1 i = lm_add8 lm_s512 (lm_evh a b) i := by
  intro i hi
  have e1 : lm_nm T a b (0, Int64.ofNat 0, lm_nx (lm_st0' R lm_zL lm_zL 3 J), bb) = lm_hf T 3 128 (lm_hps T 3 128 (fun i => (lm_nn1 a b).getD i 0) 11 0 (0, Int64.ofNat 0, lm_nx (lm_st0' R lm_zL lm_zL 3 J), bb)) := rfl
  rw [e1, lm_hps_lt 11 0 _ (by show 0 + 11 < 128; decide)]
  have w1 := lm_hw_f (k := 3) (g := fun i => (lm_nn1 a b).getD i 0) 11 0 (0, Int64.ofNat 0, lm_nx (lm_st0' R lm_zL lm_zL 3 J), bb)
  have w2 := lm_hw_t (k := 3) (g := fun i => (lm_nn1 a b).getD i 0) 11 0 (0, Int64.ofNat 0, lm_nx (lm_st0' R lm_zL lm_zL 3 J), bb)
  have w3 := lm_hw_B (k := 3) (g := fun i => (lm_nn1 a b).getD i 0) (by decide) 11 0 (0, Int64.ofNat 0, lm_nx (lm_st0' R lm_zL lm_zL 3 J), bb)
  have w4 := lm_hw_S6 (k := 3) (g := fun i => (lm_nn1 a b).getD i 0) (by decide) 11 0 (0, Int64.ofNat 0, lm_nx (lm_st0' R lm_zL lm_zL 3 J), bb)
  generalize lm_hw 3 (fun i => (lm_nn1 a b).getD i 0) 11 0 (0, Int64.ofNat 0, lm_nx (lm_st0' R lm_zL lm_zL 3 J), bb) = h at w1 w2 w3 w4 ⊢
  have w1 : h.1 = 11 := w1
  have w2 : h.2.1 = Int64.ofNat 0 + Int64.ofNat 11 := w2
  have w4 : h.2.2.1 = lm_nx (lm_st0' R lm_zL lm_zL 3 J) := w4
  rw [lm_hf_A (by decide) (Or.inr rfl) (by rw [w1]; decide) i hi]
  unfold lm_cpr
  rw [if_neg (by decide), if_neg (by decide), ← lm_cc512]
  refine lm_cc5_lo h5 (fun i hi => ?_) (fun i hi => ?_) i hi
  · rw [w4]
    unfold lm_nx lm_st0' lm_ini lm_s512
    rw [if_pos hi, if_pos (by omega), if_pos (by omega), if_neg (by decide), if_neg (by decide), if_neg (by decide), if_neg (by decide), if_neg (by decide), hR i (by omega)]
  · unfold lm_bA lm_b512
    rw [w1, w2]
    by_cases c1 : i < 11
    · rw [if_pos c1, if_pos (by omega), w3 i, if_pos (by show 0 ≤ i ∧ i < 0 + 11; omega), lm_b8b]
      show lm_b8 ((lm_nn1 a b).getD (0 + (i - 0)) 0) = lm_b8 (lm_n512 a b i)
      unfold lm_n512
      match i, c1 with
      | 0, _ => rfl
      | 1, _ => rfl
      | 2, _ => rfl
      | 3, _ => rfl
      | 4, _ => rfl
      | 5, _ => rfl
      | 6, _ => rfl
      | 7, _ => rfl
      | 8, _ => rfl
      | 9, _ => rfl
      | 10, _ => rfl
    · rw [if_neg c1]
      by_cases c2 : i = 11
      · subst c2
        rfl
      · rw [if_neg c2, if_neg (show ¬ i < 12 by omega)]
        by_cases c3 : i < 128 - 128 / 8
        · rw [if_pos c3, if_neg (by omega)]
        · rw [if_neg c3, lm_gl88 (128 - 1 - i) (by omega)]
          by_cases c4 : i = 127
          · rw [if_pos (by omega), if_pos c4]
          · rw [if_neg (by omega), if_neg c4]
theorem lm_Con.tok {m : lm_MI} {n : lm_ML} (h : lm_Con m n) (xs : List Int32) : lm_Tok (lm_sc xs) (lm_tb m n) := by
  obtain ⟨h1, h2, h3, h4, h5, h6, h7, h8, h9, h10⟩ := h
  refine ⟨lm_lst 6, lm_lst 5, rfl, rfl, rfl, rfl, fun i hi => ?_, fun t ht => ?_, fun t ht => ?_⟩
  · show m 221 i = _
    rw [h5]
    exact lm_trn_ok i hi
  · show n 222 t = _
    rw [h6]
    exact lm_rnd_ok t ht
  · show n 216 t = _
    obtain ⟨p1, p2, p3⟩ := lm_p80_ok t ht
    have := (h4 _ p1.1 p1.2 p2).1
    rw [p3] at this
    rw [this]
    exact lm_cub_ok t ht
theorem lm_Con.iok {m : lm_MI} {n : lm_ML} (h : lm_Con m n) : lm_Iok n := by
  have hT := h.tok []
  obtain ⟨h1, h2, h3, h4, h5, h6, h7, h8, h9, h10⟩ := h
  have hR : ∀ i, i < 16 → n 215 i = (lm_lst 2).getD i 0 := fun t ht => by
    obtain ⟨p1, p2, p3⟩ := lm_p80_ok t (by omega)
    have := (h4 _ p1.1 p1.2 p2).2
    rw [p3] at this
    rw [this ht]
    exact lm_sqr_ok t ht
  have hK : ∀ t, t < 80 → (lm_tb m n).2.2 t = (lm_lst 5).getD t 0 := fun t ht => by
    obtain ⟨p1, p2, p3⟩ := lm_p80_ok t ht
    have := (h4 _ p1.1 p1.2 p2).1
    rw [p3] at this
    show n 216 t = _
    rw [this]
    exact lm_cub_ok t ht
  refine ⟨hR, fun i hi => ?_, fun i hi => ?_⟩
  · rw [h7 i hi, lm_h224_eq, lm_nm_S hK hR i hi]
    exact lm_evh4 i hi
  · rw [h8 i hi, lm_h256_eq, lm_nm_S hK hR i hi]
    exact lm_evh6 i hi
