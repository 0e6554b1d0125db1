/-! ===== the first eight calls of both ===== -/
def lm_al2 (m : lm_MI) (p : Nat) (m' : lm_MI) (q l : Nat) : Prop := ∀ t, t < l → lm_b8 (m p t) = lm_b8 (m' q t)
theorem lm_pt_al {m m' : lm_MI} {p q a : Nat} {v : Int32} (h : lm_al2 m p m' q a) : lm_al2 (lm_pt m p a v) p (lm_pt m' q a v) q (a + 4) := by
  intro t ht
  unfold lm_pt
  simp only [lm_rd, true_and]
  by_cases h3 : t = a + 3
  · simp only [h3, if_true]
  · by_cases h2 : t = a + 2
    · simp [h2]
    · by_cases h1 : t = a + 1
      · simp [h1]
      · by_cases h0 : t = a
        · simp [h0]
        · simp only [h3, h2, h1, h0, if_false]
          exact h t (by omega)
section LMST
variable {sc : lm_H} {m : lm_MI} {n : lm_ML} {x : lm_H × Nat × Nat} {v w u : Int32}
theorem lm_st0 {v1 v2 v3 v4 v5 : Int32} (h : lm_Tie m) : lm_Stp sc 2 3 [.int v1, .int v2, .int v3, .int v4, .int v5] m n x := by
  intro r hr
  obtain ⟨l, a1, a2, a3, a4⟩ := h.1
  by_cases hl : l + 20 ≤ 65536
  · refine ⟨0, Int32.ofNat (l + 20), _, _, _, _, _, lm_v2 hr.2.2.2 (lm_u48 (d := 597) a2 hl), lm_u3 (d := 598) (a := l) ?_ hl, ?_, ?_, ⟨?_, ?_⟩, ?_, lm_rm_so hr⟩
    · rw [lm_u_row (by decide), lm_pt_row (by decide), lm_pt_row (by decide), lm_pt_row (by decide), lm_pt_row (by decide), lm_pt_row (by decide)]
      exact a3
    · simp [lm_rd]
    · intro _
      rw [lm_gv_so hr.2.2.2]
    · refine ⟨l + 20, hl, ?_, ?_, ?_⟩
      · rw [lm_u_row (by decide), lm_u_row (by decide), lm_pt_row (by decide), lm_pt_row (by decide), lm_pt_row (by decide), lm_pt_row (by decide), lm_pt_row (by decide), lm_u_eq]
      · rw [lm_u_eq]
      · have g : lm_al2 m 3 (lm_u (lm_pt (lm_pt (lm_pt (lm_pt (lm_pt m 3 l v1) 3 (l + 4) v2) 3 (l + 8) v3) 3 (l + 12) v4) 3 (l + 16) v5) 2 1 (Int32.ofNat (l + 20))) 204 l := by
          intro t ht
          rw [lm_u_row (by decide), lm_pt_row (by decide), lm_pt_row (by decide), lm_pt_row (by decide), lm_pt_row (by decide), lm_pt_row (by decide)]
          exact a4 t ht
        have g5 := lm_pt_al (v := v5) (lm_pt_al (v := v4) (lm_pt_al (v := v3) (lm_pt_al (v := v2) (lm_pt_al (v := v1) g))))
        intro t ht
        rw [lm_u_row (q := 203) (p := 3) (by decide), lm_u_row (q := 203) (p := 3) (by decide), lm_u_row (q := 203) (p := 204) (by decide), lm_u_row (q := 203) (p := 204) (by decide)]
        refine Eq.trans ?_ (g5 t ht)
        rw [lm_pt_row (q := 204) (by decide), lm_pt_row (q := 204) (by decide), lm_pt_row (q := 204) (by decide), lm_pt_row (q := 204) (by decide), lm_pt_row (q := 204) (by decide), lm_u_row (by decide)]
    · intro i hi
      have e : ∀ q, q ≠ 2 → q ≠ 3 → q ≠ 203 → q ≠ 204 → lm_u (lm_u (lm_pt (lm_pt (lm_pt (lm_pt (lm_pt (lm_u (lm_pt (lm_pt (lm_pt (lm_pt (lm_pt m 3 l v1) 3 (l + 4) v2) 3 (l + 8) v3) 3 (l + 12) v4) 3 (l + 16) v5) 2 1 (Int32.ofNat (l + 20))) 204 l v1) 204 (l + 4) v2) 204 (l + 8) v3) 204 (l + 12) v4) 204 (l + 16) v5) 203 4 0) 203 3 (Int32.ofNat (l + 20)) q = m q := fun q q1 q2 q3 q4 => by
        rw [lm_u_row q3, lm_u_row q3, lm_pt_row q4, lm_pt_row q4, lm_pt_row q4, lm_pt_row q4, lm_pt_row q4, lm_u_row q1, lm_pt_row q2, lm_pt_row q2, lm_pt_row q2, lm_pt_row q2, lm_pt_row q2]
      exact (h.2 i hi).of (by rw [e _ (by omega) (by omega) (by omega) (by omega)]) (by rw [e _ (by omega) (by omega) (by omega) (by omega)]) (e _ (by omega) (by omega) (by omega) (by omega)) (e _ (by omega) (by omega) (by omega) (by omega))
    · refine lm_kpo fun q hq => ?_
      have q1 : q ≠ 2 := by omega
      have q2 : q ≠ 3 := by omega
      have q3 : q ≠ 203 := by omega
      have q4 : q ≠ 204 := by omega
      rw [lm_u_row q3, lm_u_row q3, lm_pt_row q4, lm_pt_row q4, lm_pt_row q4, lm_pt_row q4, lm_pt_row q4, lm_u_row q1, lm_pt_row q2, lm_pt_row q2, lm_pt_row q2, lm_pt_row q2, lm_pt_row q2]
  · have hx := lm_rm_room hr
    exact ⟨1, 0, _, _, _, _, _, lm_v2_12 hx (lm_u48e (d := 597) a2 hl a1 hx), lm_u3e (d := 598) a3 hl a1, lm_u_eq, fun h => absurd h (by decide), h.cod, lm_kpc, lm_rm_xx hr⟩
theorem lm_st5 (h : lm_Tie m) : lm_Stp sc 13 14 [.int v] m n x := by
  intro r hr
  have hx := lm_rm_room hr
  rcases lm_range v (n := 7) (by omega) with ⟨i, hi, e⟩ | e
  · subst e
    obtain ⟨l, a1, a2, a3, a4⟩ := h.2 i (by omega)
    refine ⟨0, m 214 i, _, _, _, _, _, lm_v13 hr.2.2.2 (lm_u56 (d := 597) (by omega)), lm_u14 (d := 598) (by omega), lm_u_eq, ?_, h.cod, ?_, lm_rm_so hr⟩
    · intro _
      rw [lm_gv_so hr.2.2.2, a2, a3]
    · exact lm_kpo fun q hq => lm_u_row (by omega)
  · exact ⟨1, 0, _, _, _, _, _, lm_v13_13 hx (lm_u56e (d := 597) e hx), lm_u14e (d := 598) e, lm_u_eq, fun h => absurd h (by decide), h.cod, lm_kpc, lm_rm_xx hr⟩
theorem lm_st6 (h : lm_Tie m) : lm_StpL sc 15 16 [.int v, .int w] m n x := by
  intro r hr
  have hx := lm_rm_room hr
  rcases lm_range v (n := 7) (by omega) with ⟨i, hi, e⟩ | e
  · subst e
    obtain ⟨l, a1, a2, a3, a4⟩ := h.2 i (by omega)
    rcases lm_place w a1 with ⟨k, hk, e⟩ | ⟨e1, e2⟩
    · subst e
      refine ⟨0, _, _, _, _, _, _, lm_v15 hr.2.2.2 (lm_u57 (d := 597) (by omega) a2 hk a1), lm_u16 (d := 598) (by omega) a3 hk a1, lm_u_eq, ?_, h.cod, ?_, lm_rm_so hr⟩
      · intro _
        rw [lm_gv_so hr.2.2.2]
        refine lm_wv_congr (fun t => ?_) _ _ _
        by_cases ht : t < l
        · rw [if_pos ht, if_pos ht, a4 t ht]
        · rw [if_neg ht, if_neg ht]
      · exact lm_kpo fun q hq => lm_u_row (by omega)
    · exact ⟨2, 0, _, _, _, _, _, lm_v15_12 hx (lm_u57c (d := 597) (by omega) a2 e1 hx), lm_u16c (d := 598) (by omega) a3 e2, lm_u_eq, fun h => absurd h (by decide), h.cod, lm_kpc, lm_rm_xx hr⟩
  · exact ⟨1, 0, _, _, _, _, _, lm_v15_13 hx (lm_u57a (d := 597) e hx), lm_u16a (d := 598) e, lm_u_eq, fun h => absurd h (by decide), h.cod, lm_kpc, lm_rm_xx hr⟩
theorem lm_st7 (h : lm_Tie m) : lm_StpZ sc 17 18 [.int v, .int w] m n x := by
  intro r hr
  have hx := lm_rm_room hr
  rcases lm_range v (n := 7) (by omega) with ⟨i, hi, e⟩ | e
  · subst e
    obtain ⟨l, a1, a2, a3, a4⟩ := h.2 i (by omega)
    rcases lm_range w (n := 7) (by omega) with ⟨j, hj, e⟩ | e
    · subst e
      obtain ⟨l', b1, b2, b3, b4⟩ := h.2 j (by omega)
      refine ⟨0, _, _, _, _, _, _, lm_v17 hr.2.2.2 (lm_u58 (d := 597) (by omega) (by omega) a2 b2 a1 b1), lm_u18 (d := 598) (by omega) (by omega) a3 b3 a1 b1, lm_u_eq, ?_, h.cod, ?_, lm_rm_so hr⟩
      · intro _
        rw [lm_gv_so hr.2.2.2]
        by_cases e : l = l'
        · subst e
          rw [lm_ev_congr l 0 (fun s _ hs => ⟨a4 s (by omega), b4 s (by omega)⟩)]
        · rw [decide_eq_false e, Bool.false_and, Bool.false_and]
      · exact lm_kpo fun q hq => lm_u_row (by omega)
    · exact ⟨1, false, _, _, _, _, _, lm_v17_13 hx (lm_u58b (d := 597) (by omega) e hx), lm_u18b (d := 598) (by omega) e, lm_u_eq, fun h => absurd h (by decide), h.cod, lm_kpc, lm_rm_xx hr⟩
  · exact ⟨1, false, _, _, _, _, _, lm_v17_13 hx (lm_u58a (d := 597) e hx), lm_u18a (d := 598) e, lm_u_eq, fun h => absurd h (by decide), h.cod, lm_kpc, lm_rm_xx hr⟩
end LMST
