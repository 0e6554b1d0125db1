/-! ===== end, copy, resize, alter of both ===== -/
section LMS2
variable {sc : lm_H} {m m' : lm_MI} {n : lm_ML} {x : lm_H × Nat × Nat} {v w u : Int32} {i : Nat}
/-- a slot is written, the tape may be: what is left of the tie -/
theorem lm_Tie.slot (h : lm_Tie m) (hi : i < 8) (e : ∀ q, q ≠ 2 → q ≠ 203 → q ≠ 214 → q ≠ 26 + 2 * i → q ≠ 27 + 2 * i → q ≠ 206 + i → m' q = m q) (e1 : ∀ k, k ≠ i → m' 214 k = m 214 k) (ht : lm_TieT m') (hs : lm_TieS m' i) : lm_Tie m' := by
  refine ⟨ht, fun j hj => ?_⟩
  by_cases c : j = i
  · subst c
    exact hs
  · exact (h.2 j hj).of (by rw [e _ (by omega) (by omega) (by omega) (by omega) (by omega) (by omega)]) (e1 j c) (e _ (by omega) (by omega) (by omega) (by omega) (by omega) (by omega)) (e _ (by omega) (by omega) (by omega) (by omega) (by omega) (by omega))
theorem lm_st1 (h : lm_Tie m) : lm_Stp sc 5 6 [.int v, .int w] m n x := by
  intro r hr
  have hx := lm_rm_room hr
  rcases lm_range v (n := 7) (by omega) with ⟨i, hi, e⟩ | e
  · subst e
    rcases lm_range w (n := 65536) (by omega) with ⟨c, hc, e⟩ | e
    · subst e
      obtain ⟨l, a1, a2, a3, a4⟩ := h.1
      have hi8 : i < 8 := by omega
      by_cases hl : c ≤ l
      · have g3 : lm_u (lm_u (lm_cp m (27 + 2 * i) 0 3 0 c) (26 + 2 * i) 1 (Int32.ofNat c)) 2 1 0 203 3 = Int32.ofNat l := by
          rw [lm_u_row (by omega), lm_u_row (by omega), lm_cp_row (by omega)]
          exact a3
        refine ⟨0, Int32.ofNat c, _, _, _, _, _, lm_v5 hr.2.2.2 (lm_u51 (d := 597) hi8 a2 hl a1), lm_u6 (d := 598) hi8 g3 hl a1, ?_, ?_, ?_, ?_, lm_rm_so hr⟩
        · rw [lm_u_ne (by decide), lm_u_row (by omega), lm_fl_row (by omega), lm_u_eq]
        · intro _
          rw [lm_gv_so hr.2.2.2]
        · refine h.slot hi8 (fun q q1 q2 q3 q4 q5 q6 => ?_) (fun k hk => ?_) ⟨0, by omega, ?_, lm_u_eq, fun t ht => absurd ht (by omega)⟩ ⟨c, hc, ?_, ?_, fun t ht => ?_⟩
          · rw [lm_u_row q2, lm_u_row q3, lm_fl_row q6, lm_u_row q2, lm_u_row q1, lm_u_row q4, lm_cp_row q5]
          · rw [lm_u_row (by omega), lm_u_ne (fun g => hk g.2), lm_fl_row (by omega), lm_u_row (by omega), lm_u_row (by omega), lm_u_row (by omega), lm_cp_row (by omega)]
          · rw [lm_u_row (by omega), lm_u_row (by omega), lm_fl_row (by omega), lm_u_row (by omega), lm_u_eq]
            rfl
          · rw [lm_u_row (by omega), lm_u_row (by omega), lm_fl_row (by omega), lm_u_row (by omega), lm_u_row (by omega), lm_u_eq]
          · rw [lm_u_row (by omega), lm_u_eq]
          · rw [lm_u_row (p := 27 + 2 * i) (by omega), lm_u_row (p := 27 + 2 * i) (by omega), lm_fl_row (p := 27 + 2 * i) (by omega), lm_u_row (p := 27 + 2 * i) (by omega), lm_u_row (p := 27 + 2 * i) (by omega), lm_u_row (p := 27 + 2 * i) (by omega), lm_rc, if_pos ⟨rfl, by omega, by omega⟩]
            rw [lm_u_row (p := 206 + i) (by omega), lm_u_row (p := 206 + i) (by omega), lm_fl_in ⟨by omega, ht⟩, lm_b8b, lm_u_row (p := 204) (by omega), lm_u_row (p := 204) (by omega), lm_cp_row (p' := 204) (by omega)]
            exact a4 t (by omega)
        · refine lm_kpo fun q hq => ?_
          rw [lm_u_row (by omega), lm_u_row (by omega), lm_fl_row (by omega), lm_u_row (by omega), lm_u_row (by omega), lm_u_row (by omega), lm_cp_row (by omega)]
      · exact ⟨2, 0, _, _, _, _, _, lm_v5_12 hx (lm_u51c (d := 597) hi8 a2 hl hc hx), lm_u6c (d := 598) hi8 a3 hl hc, lm_u_eq, fun h => absurd h (by decide), h.cod, lm_kpc, lm_rm_xx hr⟩
    · exact ⟨1, 0, _, _, _, _, _, lm_v5_13 hx (lm_u51b (d := 597) (by omega) e hx), lm_u6b (d := 598) (by omega) e, lm_u_eq, fun h => absurd h (by decide), h.cod, lm_kpc, lm_rm_xx hr⟩
  · exact ⟨1, 0, _, _, _, _, _, lm_v5_13 hx (lm_u51a (d := 597) e hx), lm_u6a (d := 598) e, lm_u_eq, fun h => absurd h (by decide), h.cod, lm_kpc, lm_rm_xx hr⟩
theorem lm_st2 (h : lm_Tie m) : lm_Stp sc 7 8 [.int v, .int w] m n x := by
  intro r hr
  have hx := lm_rm_room hr
  rcases lm_range v (n := 7) (by omega) with ⟨i, hi, e⟩ | e
  · subst e
    rcases lm_range w (n := 7) (by omega) with ⟨j, hj, e⟩ | e
    · subst e
      have hi8 : i < 8 := by omega
      have hj8 : j < 8 := by omega
      obtain ⟨l, a1, a2, a3, a4⟩ := h.2 i hi8
      have g3 : lm_u (lm_cp m (27 + 2 * j) 0 (27 + 2 * i) 0 l) (26 + 2 * j) 1 (Int32.ofNat l) 214 i = Int32.ofNat l := by
        rw [lm_u_row (by omega), lm_cp_row (by omega)]
        exact a3
      refine ⟨0, Int32.ofNat l, _, _, _, _, _, lm_v7 hr.2.2.2 (lm_u53 (d := 597) hi8 hj8 a2 a1), lm_u8 (d := 598) hi8 hj8 g3 a1, ?_, ?_, ?_, ?_, lm_rm_so hr⟩
      · rw [lm_u_row (by omega), lm_fl_row (by omega), lm_u_eq]
      · intro _
        rw [lm_gv_so hr.2.2.2]
      · refine h.slot hj8 (fun q q1 q2 q3 q4 q5 q6 => ?_) (fun k hk => ?_) ?_ ⟨l, a1, ?_, ?_, fun t ht => ?_⟩
        · rw [lm_u_row q3, lm_fl_row q6, lm_u_row q2, lm_u_row q4, lm_cp_row q5]
        · rw [lm_u_ne (fun g => hk g.2), lm_fl_row (by omega), lm_u_row (by omega), lm_u_row (by omega), lm_cp_row (by omega)]
        · refine h.1.of ?_ ?_ ?_ ?_
          · rw [lm_u_row (by omega), lm_fl_row (by omega), lm_u_row (by omega), lm_u_row (by omega), lm_cp_row (by omega)]
          · rw [lm_u_row (by omega), lm_fl_row (by omega), lm_u_ne (by omega), lm_u_row (by omega), lm_cp_row (by omega)]
          · rw [lm_u_row (by omega), lm_fl_row (by omega), lm_u_row (by omega), lm_u_row (by omega), lm_cp_row (by omega)]
          · rw [lm_u_row (by omega), lm_fl_row (by omega), lm_u_row (by omega), lm_u_row (by omega), lm_cp_row (by omega)]
        · rw [lm_u_row (by omega), lm_fl_row (by omega), lm_u_row (by omega), lm_u_eq]
        · rw [lm_u_eq]
        · rw [lm_u_row (p := 27 + 2 * j) (by omega), lm_fl_row (p := 27 + 2 * j) (by omega), lm_u_row (p := 27 + 2 * j) (by omega), lm_u_row (p := 27 + 2 * j) (by omega), lm_rc, if_pos ⟨rfl, by omega, by omega⟩]
          rw [lm_u_row (p := 206 + j) (by omega), lm_fl_in ⟨by omega, ht⟩, lm_b8b, lm_u_row (p := 206 + i) (by omega), lm_cp_row (p' := 206 + i) (by omega)]
          exact a4 t ht
      · refine lm_kpo fun q hq => ?_
        rw [lm_u_row (by omega), lm_fl_row (by omega), lm_u_row (by omega), lm_u_row (by omega), lm_cp_row (by omega)]
    · exact ⟨1, 0, _, _, _, _, _, lm_v7_13 hx (lm_u53b (d := 597) (by omega) e hx), lm_u8b (d := 598) (by omega) e, lm_u_eq, fun h => absurd h (by decide), h.cod, lm_kpc, lm_rm_xx hr⟩
  · exact ⟨1, 0, _, _, _, _, _, lm_v7_13 hx (lm_u53a (d := 597) e hx), lm_u8a (d := 598) e, lm_u_eq, fun h => absurd h (by decide), h.cod, lm_kpc, lm_rm_xx hr⟩
theorem lm_st3 (h : lm_Tie m) : lm_Stp sc 9 10 [.int v, .int w] m n x := by
  intro r hr
  have hx := lm_rm_room hr
  rcases lm_range v (n := 7) (by omega) with ⟨i, hi, e⟩ | e
  · subst e
    rcases lm_range w (n := 65536) (by omega) with ⟨c, hc, e⟩ | e
    · subst e
      have hi8 : i < 8 := by omega
      obtain ⟨l, a1, a2, a3, a4⟩ := h.2 i hi8
      by_cases hl : c ≤ l
      · have g3 : lm_u m (26 + 2 * i) 1 (Int32.ofNat c) 214 i = Int32.ofNat l := by
          rw [lm_u_row (by omega)]
          exact a3
        have gm := lm_u10 (sc := sc) (d := 598) (n := n) (x := lm_so (Int32.ofNat l).toInt64 x) (E := l) hi8 g3 a1 (Nat.le_refl _) hl (Or.inr rfl)
        rw [lm_fl_nil] at gm
        refine ⟨0, Int32.ofNat l, _, _, _, _, _, lm_v9 hr.2.2.2 (lm_u54 (d := 596) hi8 a2 hl a1), gm, ?_, ?_, ?_, ?_, lm_rm_so hr⟩
        · rw [lm_u_row (by omega), lm_u_eq]
        · intro _
          rw [lm_gv_so hr.2.2.2]
        · refine h.slot hi8 (fun q q1 q2 q3 q4 q5 q6 => ?_) (fun k hk => ?_) ?_ ⟨c, hc, ?_, ?_, fun t ht => ?_⟩
          · rw [lm_u_row q3, lm_u_row q2, lm_u_row q4]
          · rw [lm_u_ne (fun g => hk g.2), lm_u_row (by omega), lm_u_row (by omega)]
          · refine h.1.of ?_ ?_ ?_ ?_
            · rw [lm_u_row (by omega), lm_u_row (by omega), lm_u_row (by omega)]
            · rw [lm_u_row (by omega), lm_u_ne (by omega), lm_u_row (by omega)]
            · rw [lm_u_row (by omega), lm_u_row (by omega), lm_u_row (by omega)]
            · rw [lm_u_row (by omega), lm_u_row (by omega), lm_u_row (by omega)]
          · rw [lm_u_row (by omega), lm_u_row (by omega), lm_u_eq]
          · rw [lm_u_eq]
          · rw [lm_u_row (by omega), lm_u_row (by omega), lm_u_row (by omega), lm_u_row (by omega), lm_u_row (by omega), lm_u_row (by omega)]
            exact a4 t (by omega)
        · refine lm_kpo fun q hq => ?_
          rw [lm_u_row (by omega), lm_u_row (by omega), lm_u_row (by omega)]
      · have g3 : lm_u (lm_fil m (27 + 2 * i) l c fun _ => 0) (26 + 2 * i) 1 (Int32.ofNat c) 214 i = Int32.ofNat l := by
          rw [lm_u_row (by omega), lm_fl_row (by omega)]
          exact a3
        refine ⟨0, Int32.ofNat l, _, _, _, _, _, lm_v9 hr.2.2.2 (lm_u54g (d := 596) hi8 a2 hl hc), lm_u10 (d := 598) (E := c) hi8 g3 hc (by omega) (Nat.le_refl _) (Or.inl rfl), ?_, ?_, ?_, ?_, lm_rm_so hr⟩
        · rw [lm_u_row (by omega), lm_fl_row (by omega), lm_u_eq]
        · intro _
          rw [lm_gv_so hr.2.2.2]
        · refine h.slot hi8 (fun q q1 q2 q3 q4 q5 q6 => ?_) (fun k hk => ?_) ?_ ⟨c, hc, ?_, ?_, fun t ht => ?_⟩
          · rw [lm_u_row q3, lm_fl_row q6, lm_u_row q2, lm_u_row q4, lm_fl_row q5]
          · rw [lm_u_ne (fun g => hk g.2), lm_fl_row (by omega), lm_u_row (by omega), lm_u_row (by omega), lm_fl_row (by omega)]
          · refine h.1.of ?_ ?_ ?_ ?_
            · rw [lm_u_row (by omega), lm_fl_row (by omega), lm_u_row (by omega), lm_u_row (by omega), lm_fl_row (by omega)]
            · rw [lm_u_row (by omega), lm_fl_row (by omega), lm_u_ne (by omega), lm_u_row (by omega), lm_fl_row (by omega)]
            · rw [lm_u_row (by omega), lm_fl_row (by omega), lm_u_row (by omega), lm_u_row (by omega), lm_fl_row (by omega)]
            · rw [lm_u_row (by omega), lm_fl_row (by omega), lm_u_row (by omega), lm_u_row (by omega), lm_fl_row (by omega)]
          · rw [lm_u_row (by omega), lm_fl_row (by omega), lm_u_row (by omega), lm_u_eq]
          · rw [lm_u_eq]
          · rw [lm_u_row (p := 27 + 2 * i) (by omega), lm_fl_row (p := 27 + 2 * i) (by omega), lm_u_row (p := 27 + 2 * i) (by omega), lm_u_row (p := 27 + 2 * i) (by omega), lm_u_row (p := 206 + i) (by omega)]
            by_cases h1 : l ≤ t ∧ t < c
            · rw [lm_fl_in h1, lm_fl_in h1]
            · rw [lm_fl_out h1, lm_fl_out h1, lm_u_row (p := 206 + i) (by omega), lm_u_row (p := 206 + i) (by omega), lm_fl_row (p := 206 + i) (by omega)]
              exact a4 t (by omega)
        · refine lm_kpo fun q hq => ?_
          rw [lm_u_row (by omega), lm_fl_row (by omega), lm_u_row (by omega), lm_u_row (by omega), lm_fl_row (by omega)]
    · exact ⟨1, 0, _, _, _, _, _, lm_v9_13 hx (lm_u54b (d := 596) (by omega) e hx), lm_u10b (d := 598) (by omega) e, lm_u_eq, fun h => absurd h (by decide), h.cod, lm_kpc, lm_rm_xx hr⟩
  · exact ⟨1, 0, _, _, _, _, _, lm_v9_13 hx (lm_u54a (d := 596) e hx), lm_u10a (d := 598) e, lm_u_eq, fun h => absurd h (by decide), h.cod, lm_kpc, lm_rm_xx hr⟩
theorem lm_st4 (h : lm_Tie m) : lm_Stp sc 11 12 [.int v, .int w, .int u] m n x := by
  intro r hr
  have hx := lm_rm_room hr
  rcases lm_range v (n := 7) (by omega) with ⟨i, hi, e⟩ | e
  · subst e
    have hi8 : i < 8 := by omega
    rcases lm_range u (n := 255) (by omega) with ⟨c, hc, e⟩ | e
    · subst e
      obtain ⟨l, a1, a2, a3, a4⟩ := h.2 i hi8
      rcases lm_place w a1 with ⟨k, hk, e⟩ | ⟨e1, e2⟩
      · subst e
        have g3 : lm_u m (27 + 2 * i) k (lm_b8 (lm_b8 (m (27 + 2 * i) k) ^^^ lm_b8 (Int32.ofNat c))) 214 i = Int32.ofNat l := by
          rw [lm_u_row (by omega)]
          exact a3
        have g4 : lm_u m (27 + 2 * i) k (lm_b8 (lm_b8 (m (27 + 2 * i) k) ^^^ lm_b8 (Int32.ofNat c))) (206 + i) k = m (206 + i) k := by
          rw [lm_u_row (by omega)]
        have gm := lm_u12 (sc := sc) (d := 598) (n := n) (x := lm_so (lm_b8 (lm_b8 (lm_b8 (m (27 + 2 * i) k) ^^^ lm_b8 (Int32.ofNat c))) &&& Int32.ofNat 255).toInt64 x) hi8 hc g3 hk a1
        rw [g4] at gm
        refine ⟨0, _, _, _, _, _, _, lm_v11 hr.2.2.2 (lm_u55 (d := 597) hi8 hc a2 hk a1), gm, ?_, ?_, ?_, ?_, lm_rm_so hr⟩
        · rw [lm_u_row (by omega), lm_u_eq]
        · intro _
          rw [lm_gv_so hr.2.2.2, a4 k hk]
        · refine h.slot hi8 (fun q q1 q2 q3 q4 q5 q6 => ?_) (fun k hk => ?_) ?_ ⟨l, a1, ?_, ?_, fun t ht => ?_⟩
          · rw [lm_u_row q6, lm_u_row q2, lm_u_row q5]
          · rw [lm_u_row (by omega), lm_u_row (by omega), lm_u_row (by omega)]
          · refine h.1.of ?_ ?_ ?_ ?_
            · rw [lm_u_row (by omega), lm_u_row (by omega), lm_u_row (by omega)]
            · rw [lm_u_row (by omega), lm_u_ne (by omega), lm_u_row (by omega)]
            · rw [lm_u_row (by omega), lm_u_row (by omega), lm_u_row (by omega)]
            · rw [lm_u_row (by omega), lm_u_row (by omega), lm_u_row (by omega)]
          · rw [lm_u_row (by omega), lm_u_row (by omega), lm_u_row (by omega)]
            exact a2
          · rw [lm_u_row (by omega), lm_u_row (by omega), lm_u_row (by omega)]
            exact a3
          · rw [lm_u_row (p := 27 + 2 * i) (by omega), lm_u_row (p := 27 + 2 * i) (by omega)]
            by_cases h1 : t = k
            · subst h1
              rw [lm_u_eq, lm_u_eq, a4 t ht]
            · rw [lm_u_ne (fun g => h1 g.2), lm_u_ne (fun g => h1 g.2), lm_u_row (p := 206 + i) (by omega), lm_u_row (p := 206 + i) (by omega)]
              exact a4 t ht
        · refine lm_kpo fun q hq => ?_
          rw [lm_u_row (by omega), lm_u_row (by omega), lm_u_row (by omega)]
      · exact ⟨2, 0, _, _, _, _, _, lm_v11_12 hx (lm_u55c (d := 597) hi8 hc a2 e1 hx), lm_u12c (d := 598) hi8 hc a3 e2, lm_u_eq, fun h => absurd h (by decide), h.cod, lm_kpc, lm_rm_xx hr⟩
    · exact ⟨1, 0, _, _, _, _, _, lm_v11_13 hx (lm_u55b (d := 597) hi8 e hx), lm_u12b (d := 598) hi8 e, lm_u_eq, fun h => absurd h (by decide), h.cod, lm_kpc, lm_rm_xx hr⟩
  · exact ⟨1, 0, _, _, _, _, _, lm_v11_13 hx (lm_u55a (d := 597) e hx), lm_u12a (d := 598) e, lm_u_eq, fun h => absurd h (by decide), h.cod, lm_kpc, lm_rm_xx hr⟩
end LMS2
