/-! ===== digest: one call of both ===== -/
/-- what the class's digest leaves as it was -/
def lm_f8c (L : Nat) (m : lm_MI) (n : lm_ML) (m1 : lm_MI) (n1 : lm_ML) : Prop := (∀ q, q ≠ 38 → q ≠ 39 → q < 5 ∨ 25 < q → m1 q = m q) ∧ (∀ q, q < 5 ∨ 22 < q → n1 q = n q) ∧ m1 11 1 = m 11 1 ∧ m1 17 1 = m 17 1 ∧ m1 38 1 = Int32.ofNat L
/-- what the reference's digest leaves as it was -/
def lm_f8r (L : Nat) (m : lm_MI) (n : lm_ML) (m1 : lm_MI) (n1 : lm_ML) : Prop := (∀ q, q ≠ 203 → q ≠ 212 → q ≠ 214 → q ≠ 227 → q ≠ 228 → q ≠ 229 → m1 q = m q) ∧ (∀ j, j ≠ 4 → j ≠ 18 → j ≠ 19 → j ≠ 20 → m1 203 j = m 203 j) ∧ m1 203 4 = 0 ∧ (∀ q, q ≠ 203 → q ≠ 223 → q ≠ 224 → q ≠ 225 → q ≠ 226 → n1 q = n q) ∧ (∀ k, k ≠ 6 → m1 214 k = m 214 k) ∧ m1 214 6 = Int32.ofNat L
section LMS8
variable {sc : lm_H} {xs : List Int32} {m m1 m2 : lm_MI} {n n1 n2 : lm_ML} {x : lm_H × Nat × Nat} {v w : Int32} {L k r : Nat}
theorem lm_f8c.tb (h : lm_f8c L m n m1 n1) : lm_tb m1 n1 = lm_tb m n := Prod.ext (h.1 221 (by decide) (by decide) (by decide)) (Prod.ext (h.2.1 222 (by decide)) (h.2.1 216 (by decide)))
theorem lm_f8c.h0 (h : lm_f8c L m n m1 n1) (k : Nat) : lm_h0 m1 n1 k = lm_h0 m n k := by
  unfold lm_h0
  rw [h.1 227 (by decide) (by decide) (by decide), h.2.1 215 (by decide), h.2.1 217 (by decide), h.2.1 218 (by decide), h.2.1 223 (by decide)]
theorem lm_f8_row (f : lm_f8c L m n m1 n1) (g : lm_f8r L m1 n1 m2 n2) {q : Nat} (h1 : q ≠ 38) (h2 : q ≠ 39) (h3 : q < 5 ∨ 25 < q) (h4 : q ≠ 203) (h5 : q ≠ 212) (h6 : q ≠ 214) (h7 : q < 227 ∨ 229 < q) : m2 q = m q := by
  rw [g.1 q h4 h5 h6 (by omega) (by omega) (by omega), f.1 q h1 h2 h3]
theorem lm_f8_tie (h : lm_Tie m) (hL : L ≤ 65536) (f : lm_f8c L m n m1 n1) (g : lm_f8r L m1 n1 m2 n2) (e : ∀ t, t < L → lm_b8 (m2 39 t) = lm_b8 (m2 212 t)) : lm_Tie m2 := by
  have R := @lm_f8_row m m1 m2 n n1 n2 L f g
  refine ⟨?_, fun j hj => ?_⟩
  · refine h.1.of ?_ ?_ ?_ ?_
    · rw [@R 2 (by decide) (by decide) (by decide) (by decide) (by decide) (by decide) (by decide)]
    · rw [g.2.1 3 (by decide) (by decide) (by decide) (by decide), f.1 203 (by decide) (by decide) (by decide)]
    · exact @R 3 (by decide) (by decide) (by decide) (by decide) (by decide) (by decide) (by decide)
    · exact @R 204 (by decide) (by decide) (by decide) (by decide) (by decide) (by decide) (by decide)
  · by_cases c : j = 6
    · subst c
      refine ⟨L, hL, ?_, g.2.2.2.2.2, e⟩
      show m2 38 1 = _
      rw [g.1 38 (by decide) (by decide) (by decide) (by decide) (by decide) (by decide)]
      exact f.2.2.2.2
    · refine (h.2 j hj).of ?_ ?_ ?_ ?_
      · rw [@R (26 + 2 * j) (by omega) (by omega) (by omega) (by omega) (by omega) (by omega) (by omega)]
      · rw [g.2.2.2.2.1 j c, f.1 214 (by decide) (by decide) (by decide)]
      · exact @R (27 + 2 * j) (by omega) (by omega) (by omega) (by omega) (by omega) (by omega) (by omega)
      · exact @R (206 + j) (by omega) (by omega) (by omega) (by omega) (by omega) (by omega) (by omega)
theorem lm_f8_kp (f : lm_f8c L m n m1 n1) (g : lm_f8r L m1 n1 m2 n2) : lm_kp m n m2 n2 := by
  refine ⟨?_, ?_, ?_⟩
  · intro q hq
    simp only [lm_cst, List.mem_cons, List.mem_nil_iff, or_false] at hq
    exact ⟨lm_f8_row f g (by omega) (by omega) (by omega) (by omega) (by omega) (by omega) (by omega), by rw [g.2.2.2.1 q (by omega) (by omega) (by omega) (by omega) (by omega), f.2.1 q (by omega)]⟩
  · rw [g.1 11 (by decide) (by decide) (by decide) (by decide) (by decide) (by decide)]
    exact f.2.2.1
  · rw [g.1 17 (by decide) (by decide) (by decide) (by decide) (by decide) (by decide)]
    exact f.2.2.2.1
/-- a digest that both make -/
theorem lm_st8c (h : lm_Tie m) (hr : lm_rmm (r + 1) x) (hL : L ≤ 65536) (C : lm_cal sc 599 59 [.ref 0, .int v, .int w] (lm_w m n x) = some (.ok (some (.int (Int32.ofNat L))), lm_w m1 n1 x)) (R : lm_cal sc 600 20 [.ref 203, .int v, .int w] (lm_w m1 n1 (lm_so (Int32.ofNat L).toInt64 x)) = some (.ok (some (.int (Int32.ofNat L))), lm_w m2 n2 (lm_so (Int32.ofNat L).toInt64 x))) (f : lm_f8c L m n m1 n1) (g : lm_f8r L m1 n1 m2 n2) (e : ∀ t, t < L → lm_b8 (m2 39 t) = lm_b8 (m2 212 t)) : ∃ (k b : Int32) (m1 : lm_MI) (n1 : lm_ML) (x1 : lm_H × Nat × Nat) (m2 : lm_MI) (n2 : lm_ML), lm_cal sc 600 19 (.ref 0 :: ([.int v, .int w] ++ [.ref 362])) (lm_w m n x) = some (.ok (some (.int k)), lm_w m1 n1 x1) ∧ lm_cal sc 600 20 (.ref 203 :: [.int v, .int w]) (lm_w m1 n1 x1) = some (.ok (some (.int b)), lm_w m2 n2 x1) ∧ m2 203 4 = k ∧ (k = 0 → lm_gv x1 = b.toInt64) ∧ lm_Tie m2 ∧ lm_kp m n m2 n2 ∧ lm_rmm r x1 := by
  refine ⟨0, Int32.ofNat L, m1, n1, _, m2, n2, lm_v19 hr.2.2.2 C, R, g.2.2.1, ?_, lm_f8_tie h hL f g e, lm_f8_kp f g, lm_rm_so hr⟩
  intro _
  rw [lm_gv_so hr.2.2.2]
/-- kinds 1 to 12 -/
theorem lm_st8p (hc : lm_Con m n) (h : lm_Tie m) (h1 : 1 ≤ k) (h2 : k ≤ 12) {c : Nat} (hw : c ≤ 65536) (hr : lm_rmm (r + 1) x) : ∃ (k' b : Int32) (m1 : lm_MI) (n1 : lm_ML) (x1 : lm_H × Nat × Nat) (m2 : lm_MI) (n2 : lm_ML), lm_cal (lm_sc xs) 600 19 (.ref 0 :: ([.int (Int32.ofNat k), .int (Int32.ofNat c)] ++ [.ref 362])) (lm_w m n x) = some (.ok (some (.int k')), lm_w m1 n1 x1) ∧ lm_cal (lm_sc xs) 600 20 (.ref 203 :: [.int (Int32.ofNat k), .int (Int32.ofNat c)]) (lm_w m1 n1 x1) = some (.ok (some (.int b)), lm_w m2 n2 x1) ∧ m2 203 4 = k' ∧ (k' = 0 → lm_gv x1 = b.toInt64) ∧ lm_Tie m2 ∧ lm_kp m n m2 n2 ∧ lm_rmm r x1 := by
  obtain ⟨l, a1, a2, a3, a4⟩ := h.2 3 (by decide)
  obtain ⟨M, N, C, F⟩ := lm_u59p (xs := xs) (d := 594) (x := x) hc h1 h2 hw a2 a1
  have hL := lm_dgl_le (k := k) hw
  have f : lm_f8c (lm_dgl k c) m n (lm_fil M 39 0 (lm_dgl k c) (lm_dv m n k 33 l)) N := by
    refine ⟨fun q q1 q2 q3 => ?_, fun q hq => F.2.1 q (by omega), ?_, ?_, ?_⟩
    · rw [lm_fl_row q2, F.1 q (by omega), lm_u_row q1]
    · rw [lm_fl_row (by decide), F.2.2.1, lm_u_row (by decide)]
    · rw [lm_fl_row (by decide), F.2.2.2, lm_u_row (by decide)]
    · rw [lm_fl_row (by decide), F.1 38 (by decide), lm_u_eq]
  have g3 : lm_fil M 39 0 (lm_dgl k c) (lm_dv m n k 33 l) 214 3 = Int32.ofNat l := by
    rw [f.1 214 (by decide) (by decide) (by decide)]
    exact a3
  obtain ⟨M2, N2, R, G⟩ := lm_u20p (sc := lm_sc xs) (d := 594) (x := lm_so (Int32.ofNat (lm_dgl k c)).toInt64 x) (n := N) h1 h2 hw g3 a1
  refine lm_st8c h hr hL C R f ?_ ?_
  · refine ⟨fun q q1 q2 q3 q4 q5 q6 => ?_, fun j j1 j2 j3 j4 => ?_, ?_, G.2.2, fun j hj => ?_, lm_u_eq⟩
    · rw [lm_u_row q3, lm_fl_row q2, G.1 q q1 q4, lm_u_row q1]
    · rw [lm_u_row (by decide), lm_fl_row (by decide), G.2.1 j j2 j3 j4, lm_u_ne (fun e => j1 e.2)]
    · rw [lm_u_row (by decide), lm_fl_row (by decide), G.2.1 4 (by decide) (by decide) (by decide), lm_u_eq]
    · rw [lm_u_ne (fun e => hj e.2), lm_fl_row (by decide), G.1 214 (by decide) (by decide), lm_u_row (by decide)]
  · intro t ht
    rw [lm_u_row (p := 39) (by decide), lm_fl_row (p := 39) (by decide), G.1 39 (by decide) (by decide), lm_u_row (p := 39) (by decide), lm_fl_in ⟨by omega, ht⟩, lm_u_row (p := 212) (by decide), lm_fl_in ⟨by omega, ht⟩]
    refine congrArg lm_b8 (lm_dv_eq f.tb (f.h0 k) (fun t ht => ?_) t)
    rw [f.1 209 (by decide) (by decide) (by decide)]
    exact a4 t ht
/-- HMAC -/
theorem lm_st8m {b : Nat} (hc : lm_Con m n) (h : lm_Tie m) (hkb : (k = 13 ∧ b = 1) ∨ (k = 14 ∧ b = 3)) {c : Nat} (hw : c ≤ 65536) (hr : lm_rmm (r + 1) x) : ∃ (k' b : Int32) (m1 : lm_MI) (n1 : lm_ML) (x1 : lm_H × Nat × Nat) (m2 : lm_MI) (n2 : lm_ML), lm_cal (lm_sc xs) 600 19 (.ref 0 :: ([.int (Int32.ofNat k), .int (Int32.ofNat c)] ++ [.ref 362])) (lm_w m n x) = some (.ok (some (.int k')), lm_w m1 n1 x1) ∧ lm_cal (lm_sc xs) 600 20 (.ref 203 :: [.int (Int32.ofNat k), .int (Int32.ofNat c)]) (lm_w m1 n1 x1) = some (.ok (some (.int b)), lm_w m2 n2 x1) ∧ m2 203 4 = k' ∧ (k' = 0 → lm_gv x1 = b.toInt64) ∧ lm_Tie m2 ∧ lm_kp m n m2 n2 ∧ lm_rmm r x1 := by
  obtain ⟨l, a1, a2, a3, a4⟩ := h.2 0 (by decide)
  obtain ⟨l2, b1, b2, b3, b4⟩ := h.2 3 (by decide)
  obtain ⟨M, N, C, F⟩ := lm_u59m (xs := xs) (d := 593) (x := x) hc hkb hw a2 a1 b2 b1
  have hL : lm_dg b ≤ 65536 := by
    rcases hkb with ⟨_, e⟩ | ⟨_, e⟩ <;> subst e <;> decide
  have f : lm_f8c (lm_dg b) m n (lm_fil M 39 0 (lm_dg b) (lm_hv m n b 27 l 33 l2)) N := by
    refine ⟨fun q q1 q2 q3 => ?_, fun q hq => F.2.1 q (by omega), ?_, ?_, ?_⟩
    · rw [lm_fl_row q2, F.1 q (by omega), lm_u_row q1]
    · rw [lm_fl_row (by decide), F.2.2.1, lm_u_row (by decide)]
    · rw [lm_fl_row (by decide), F.2.2.2, lm_u_row (by decide)]
    · rw [lm_fl_row (by decide), F.1 38 (by decide), lm_u_eq]
  have g0 : lm_fil M 39 0 (lm_dg b) (lm_hv m n b 27 l 33 l2) 214 0 = Int32.ofNat l := by
    rw [f.1 214 (by decide) (by decide) (by decide)]
    exact a3
  have g3 : lm_fil M 39 0 (lm_dg b) (lm_hv m n b 27 l 33 l2) 214 3 = Int32.ofNat l2 := by
    rw [f.1 214 (by decide) (by decide) (by decide)]
    exact b3
  obtain ⟨M2, N2, R, G⟩ := lm_u20m (sc := lm_sc xs) (d := 593) (x := lm_so (Int32.ofNat (lm_dg b)).toInt64 x) (n := N) hkb hw g0 a1 g3 b1
  refine lm_st8c h hr hL C R f ?_ ?_
  · refine ⟨fun q q1 q2 q3 q4 q5 q6 => ?_, fun j j1 j2 j3 j4 => ?_, ?_, G.2.2, fun j hj => ?_, lm_u_eq⟩
    · rw [lm_u_row q3, lm_fl_row q2, G.1 q q1 q4 q5 q6, lm_u_row q1]
    · rw [lm_u_row (by decide), lm_fl_row (by decide), G.2.1 j j2 j3 j4, lm_u_ne (fun e => j1 e.2)]
    · rw [lm_u_row (by decide), lm_fl_row (by decide), G.2.1 4 (by decide) (by decide) (by decide), lm_u_eq]
    · rw [lm_u_ne (fun e => hj e.2), lm_fl_row (by decide), G.1 214 (by decide) (by decide) (by decide) (by decide), lm_u_row (by decide)]
  · intro t ht
    rw [lm_u_row (p := 39) (by decide), lm_fl_row (p := 39) (by decide), G.1 39 (by decide) (by decide) (by decide) (by decide), lm_u_row (p := 39) (by decide), lm_fl_in ⟨by omega, ht⟩, lm_u_row (p := 212) (by decide), lm_fl_in ⟨by omega, ht⟩]
    refine congrArg lm_b8 (lm_hv_eq f.tb (f.h0 b) (fun t ht => ?_) (fun t ht => ?_) t)
    · rw [f.1 206 (by decide) (by decide) (by decide)]
      exact a4 t ht
    · rw [f.1 209 (by decide) (by decide) (by decide)]
      exact b4 t ht
/-- MGF1, both hashes -/
theorem lm_u59g {b l c d : Nat} (hc : lm_Con m n) (hkb : (k = 15 ∧ b = 1) ∨ (k = 16 ∧ b = 3)) (hw : c ≤ 65536) (hm : m 32 1 = Int32.ofNat l) (hl : l ≤ 65536) : ∃ m1 n1, lm_cal (lm_sc xs) (d + 6) 59 [.ref 0, .int (Int32.ofNat k), .int (Int32.ofNat c)] (lm_w m n x) = some (.ok (some (.int (Int32.ofNat c))), lm_w m1 n1 x) ∧ (∀ i, i < c → m1 39 i = lm_gv2 m n b 33 l i) ∧ lm_fq 39 (lm_u m 38 1 (Int32.ofNat c)) n m1 n1 := by
  rcases hkb with ⟨e, e2⟩ | ⟨e, e2⟩
  · subst e; subst e2
    exact lm_u59g15 hc hw hm hl
  · subst e; subst e2
    exact lm_u59g16 hc hw hm hl
theorem lm_st8g {b : Nat} (hc : lm_Con m n) (h : lm_Tie m) (hkb : (k = 15 ∧ b = 1) ∨ (k = 16 ∧ b = 3)) {c : Nat} (hw : c ≤ 65536) (hr : lm_rmm (r + 1) x) : ∃ (k' b : Int32) (m1 : lm_MI) (n1 : lm_ML) (x1 : lm_H × Nat × Nat) (m2 : lm_MI) (n2 : lm_ML), lm_cal (lm_sc xs) 600 19 (.ref 0 :: ([.int (Int32.ofNat k), .int (Int32.ofNat c)] ++ [.ref 362])) (lm_w m n x) = some (.ok (some (.int k')), lm_w m1 n1 x1) ∧ lm_cal (lm_sc xs) 600 20 (.ref 203 :: [.int (Int32.ofNat k), .int (Int32.ofNat c)]) (lm_w m1 n1 x1) = some (.ok (some (.int b)), lm_w m2 n2 x1) ∧ m2 203 4 = k' ∧ (k' = 0 → lm_gv x1 = b.toInt64) ∧ lm_Tie m2 ∧ lm_kp m n m2 n2 ∧ lm_rmm r x1 := by
  obtain ⟨l, a1, a2, a3, a4⟩ := h.2 3 (by decide)
  obtain ⟨M, N, C, V, F⟩ := lm_u59g (xs := xs) (d := 593) (x := x) hc hkb hw a2 a1
  have f : lm_f8c c m n M N := by
    refine ⟨fun q q1 q2 q3 => ?_, fun q hq => F.2.1 q (by omega), ?_, ?_, ?_⟩
    · rw [F.1 q q2 q3, lm_u_row q1]
    · rw [F.2.2.1, lm_u_row (by decide)]
    · rw [F.2.2.2, lm_u_row (by decide)]
    · rw [F.1 38 (by decide) (by decide), lm_u_eq]
  have g3 : M 214 3 = Int32.ofNat l := by
    rw [f.1 214 (by decide) (by decide) (by decide)]
    exact a3
  obtain ⟨M2, N2, R, V2, G⟩ := lm_u20g (sc := lm_sc xs) (d := 593) (x := lm_so (Int32.ofNat c).toInt64 x) (n := N) hkb hw g3 a1
  refine lm_st8c h hr hw C R f ?_ ?_
  · refine ⟨fun q q1 q2 q3 q4 q5 q6 => ?_, fun j j1 j2 j3 j4 => ?_, ?_, G.2.2, fun j hj => ?_, lm_u_eq⟩
    · rw [lm_u_row q3, G.1 q q1 q4 q5 q6 q2, lm_u_row q1]
    · rw [lm_u_row (by decide), G.2.1 j j2 j3 j4, lm_u_ne (fun e => j1 e.2)]
    · rw [lm_u_row (by decide), G.2.1 4 (by decide) (by decide) (by decide), lm_u_eq]
    · rw [lm_u_ne (fun e => hj e.2), G.1 214 (by decide) (by decide) (by decide) (by decide) (by decide), lm_u_row (by decide)]
  · intro t ht
    rw [lm_u_row (p := 39) (by decide), G.1 39 (by decide) (by decide) (by decide) (by decide) (by decide), lm_u_row (p := 39) (by decide), V t ht, lm_u_row (p := 212) (by decide), V2 t ht, lm_b8b]
    refine congrArg lm_b8 (lm_gv2_eq f.tb (f.h0 b) (fun t ht => ?_) t)
    rw [f.1 209 (by decide) (by decide) (by decide)]
    exact a4 t ht
theorem lm_k16 (h : Int32.ofInt 1 ≤ v ∧ v ≤ Int32.ofInt 16) : ∃ k, 1 ≤ k ∧ k ≤ 16 ∧ v = Int32.ofNat k := by
  rcases lm_range v (n := 16) (by omega) with ⟨i, hi, e⟩ | e
  · refine ⟨i, ?_, hi, e⟩
    rcases Nat.eq_zero_or_pos i with c | c
    · subst c
      subst e
      exact absurd h.1 (by decide)
    · exact c
  · exact absurd ⟨Int32.le_trans (by decide) h.1, h.2⟩ e
/-- the digest -/
theorem lm_st8 (hc : lm_Con m n) (h : lm_Tie m) : lm_Stp (lm_sc xs) 19 20 [.int v, .int w] m n x := by
  intro r hr
  have hx := lm_rm_room hr
  by_cases hv : Int32.ofInt 1 ≤ v ∧ v ≤ Int32.ofInt 16
  · rcases lm_range w (n := 65536) (by omega) with ⟨c, hw, e⟩ | e
    · obtain ⟨k, k1, k2, e2⟩ := lm_k16 hv
      subst e
      subst e2
      by_cases c1 : k ≤ 12
      · exact lm_st8p hc h k1 c1 hw hr
      · by_cases c2 : k ≤ 14
        · exact lm_st8m (b := if k = 13 then 1 else 3) hc h (by rcases (by omega : k = 13 ∨ k = 14) with e | e <;> subst e <;> decide) hw hr
        · exact lm_st8g (b := if k = 15 then 1 else 3) hc h (by rcases (by omega : k = 15 ∨ k = 16) with e | e <;> subst e <;> decide) hw hr
    · exact ⟨1, 0, _, _, _, _, _, lm_v19_13 hx (lm_u59b (d := 597) hv e hx), lm_u20b (d := 598) hv e, lm_u_eq, fun h => absurd h (by decide), h.cod, lm_kpc, lm_rm_xx hr⟩
  · exact ⟨1, 0, _, _, _, _, _, lm_v19_13 hx (lm_u59a (d := 597) hv hx), lm_u20a (d := 598) hv, lm_u_eq, fun h => absurd h (by decide), h.cod, lm_kpc, lm_rm_xx hr⟩
end LMS8
