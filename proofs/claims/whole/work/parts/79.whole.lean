/-! ===== the whole, out of the nineteen calls ===== -/
/-- what the constants are -/
def lm_Con (m : lm_MI) (n : lm_ML) : Prop := m 45 = lm_m1s 45 ∧ m 46 = lm_m1s 46 ∧ m 77 = lm_m1s 77 ∧ lm_CR n 410 ∧ m 221 = lm_tm lm_m1s 24 221 ∧ n 222 = lm_rq lm_n1s 24 222 ∧ (∀ i, i < 8 → n 217 i = (lm_h224 (lm_tb m n) (n 215) (fun _ => 0) (fun _ => 0)).2.2.1 i) ∧ (∀ i, i < 8 → n 218 i = (lm_h256 (lm_tb m n) (n 215) (fun _ => 0) (fun _ => 0)).2.2.1 i) ∧ m 11 1 = Int32.ofNat 64 ∧ m 17 1 = Int32.ofNat 128
theorem lm_Con.kp {m m2 : lm_MI} {n n2 : lm_ML} (h : lm_Con m n) (kk : lm_kp m n m2 n2) : lm_Con m2 n2 := by
  obtain ⟨h1, h2, h3, h4, h5, h6, h7, h8, h9, h10⟩ := h
  obtain ⟨k, k11, k17⟩ := kk
  have et : lm_tb m2 n2 = lm_tb m n := Prod.ext (k 221 (by decide)).1 (Prod.ext (k 222 (by decide)).2 (k 216 (by decide)).2)
  refine ⟨(k 45 (by decide)).1.trans h1, (k 46 (by decide)).1.trans h2, (k 77 (by decide)).1.trans h3, ?_, (k 221 (by decide)).1.trans h5, (k 222 (by decide)).2.trans h6, ?_, ?_, k11.trans h9, k17.trans h10⟩
  · intro q a b c
    rw [(k 215 (by decide)).2, (k 216 (by decide)).2]
    exact h4 q a b c
  · intro i hi
    rw [et, (k 215 (by decide)).2, (k 217 (by decide)).2]
    exact h7 i hi
  · intro i hi
    rw [et, (k 215 (by decide)).2, (k 218 (by decide)).2]
    exact h8 i hi
/-- a fresh object: every slot and the tape are empty -/
def lm_Fre (m : lm_MI) : Prop := m 2 1 = Int32.ofNat 0 ∧ m 203 3 = Int32.ofNat 0 ∧ ∀ i, i < 8 → m (26 + 2 * i) 1 = Int32.ofNat 0 ∧ m 214 i = Int32.ofNat 0
theorem lm_Fre.tie {m : lm_MI} (h : lm_Fre m) : lm_Tie m := ⟨⟨0, by decide, h.1, h.2.1, fun t ht => absurd ht (by omega)⟩, fun i hi => ⟨0, by decide, (h.2.2 i hi).1, (h.2.2 i hi).2, fun t ht => absurd ht (by omega)⟩⟩
section LMWH
variable {m : lm_MI} {n : lm_ML}
theorem lm_PC.row (h : lm_PC lm_m1s lm_n1s m n) {q : Nat} (h1 : q ≠ 5) (h2 : q ≠ 11) (h3 : q ≠ 17) (h4 : q ≠ 45) (h5 : q ≠ 46) (h6 : q ≠ 77) (h7 : q ≠ 194) (h8 : q ≠ 203) (h9 : q ≠ 221) (h10 : q ≠ 227) : m q = fun _ => 0 := by
  rw [h.2.2.2.2.2.1 q h8 h9 h10]
  exact lm_m1s_row h1 h2 h3 h4 h5 h6 h7
theorem lm_PC.fre (h : lm_PC lm_m1s lm_n1s m n) : lm_Fre m := by
  refine ⟨?_, ?_, fun i hi => ⟨?_, ?_⟩⟩
  · rw [h.row (by decide) (by decide) (by decide) (by decide) (by decide) (by decide) (by decide) (by decide) (by decide) (by decide)]
    rfl
  · rw [h.2.2.2.2.2.2.1 3 (by decide) (by decide) (by decide), lm_m1s_row (by decide) (by decide) (by decide) (by decide) (by decide) (by decide) (by decide)]
    rfl
  · rw [h.row (by omega) (by omega) (by omega) (by omega) (by omega) (by omega) (by omega) (by omega) (by omega) (by omega)]
    rfl
  · rw [h.row (by decide) (by decide) (by decide) (by decide) (by decide) (by decide) (by decide) (by decide) (by decide) (by decide)]
    rfl
theorem lm_m1s_11 : lm_m1s 11 1 = Int32.ofNat 64 := by
  unfold lm_m1s
  rw [lm_u_row (by decide), lm_u_row (by decide), lm_dm_row (by decide), lm_km_row (by decide) (by decide), lm_u_row (by decide), lm_u_eq]
theorem lm_m1s_17 : lm_m1s 17 1 = Int32.ofNat 128 := by
  unfold lm_m1s
  rw [lm_u_row (by decide), lm_u_row (by decide), lm_dm_row (by decide), lm_km_row (by decide) (by decide), lm_u_eq]
theorem lm_PC.con (h : lm_PC lm_m1s lm_n1s m n) : lm_Con m n := by
  have h227 : lm_m1s 227 = fun _ => 0 := lm_m1s_row (by decide) (by decide) (by decide) (by decide) (by decide) (by decide) (by decide)
  obtain ⟨a1, a2, a3, a4, a5, a6, a7, a8⟩ := h
  have e223 : lm_n1s 223 = fun _ => 0 := rfl
  rw [h227, e223] at a4 a5
  exact ⟨a6 45 (by decide) (by decide) (by decide), a6 46 (by decide) (by decide) (by decide), a6 77 (by decide) (by decide) (by decide), a1, a2, a3, a4, a5, (congrFun (a6 11 (by decide) (by decide) (by decide)) 1).trans lm_m1s_11, (congrFun (a6 17 (by decide) (by decide) (by decide)) 1).trans lm_m1s_17⟩
end LMWH
theorem lm_rm0 : lm_rmm 513 ([.inr (.inl [0])], 600661, 5944361) := ⟨by decide, by decide, by decide, ⟨0, [], rfl⟩⟩
/-- the pure statement, out of the calls -/
theorem lm_pure_w (H : ∀ xs m n x, lm_Con m n → lm_Tie m → lm_Sts (lm_sc xs) m n x) (xs : List Int32) (hx : xs.length ≤ 3072) : ∃ σ, lm_rn (lm_sc xs) 600 [] (lm_reg lm_law) (0, [(0, .ref lm_B)], []) ([], 601024, 7293033) = some (.ok (some (.int 1)), σ) := by
  obtain ⟨m', n', hp, h⟩ := lm_law0 (sc := lm_sc xs) (d := 592)
  obtain ⟨σ, e⟩ := lm_loop (sc := lm_sc xs) (xs := xs) (I := lm_Con) rfl hx (fun m n x a b => H xs m n x a b) (fun _ _ _ _ a b => a.kp b) 512 0 m' n' ([.inr (.inl [0])], 600661, 5944361) (by omega) (by omega) (by omega) hp.con hp.fre.tie lm_rm0
  exact ⟨σ, h _ e⟩
/-- scripts of one call -/
theorem lm_pure_1 (H : ∀ xs m n x, lm_Con m n → lm_Fre m → lm_Sts (lm_sc xs) m n x) (xs : List Int32) (hx : xs.length ≤ 6) : ∃ σ, lm_rn (lm_sc xs) 600 [] (lm_reg lm_law) (0, [(0, .ref lm_B)], []) ([], 601024, 7293033) = some (.ok (some (.int 1)), σ) := by
  obtain ⟨m', n', hp, h⟩ := lm_law0 (sc := lm_sc xs) (d := 592)
  by_cases h6 : 0 + 6 ≤ xs.length
  · obtain ⟨σ, e⟩ := lm_iter (sc := lm_sc xs) (xs := xs) (i := 0) (m := m') (n := n') (x := ([.inr (.inl [0])], 600661, 5944361)) rfl h6 (by omega) lm_rm0 hp.fre.tie (H xs m' n' _ hp.con hp.fre) (fun m2 n2 x1 _ _ _ => ⟨_, lm_done rfl (by omega) (by omega) (by omega)⟩)
    exact ⟨σ, h _ e⟩
  · exact ⟨_, h _ (lm_done (xs := xs) rfl (by omega) (by omega) (by omega))⟩
