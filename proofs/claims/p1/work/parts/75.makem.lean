/-! ===== the reference's constructor ===== -/
section LMMM
variable {sc : lm_H} {d : Nat} {m : lm_MI} {n : lm_ML}
set_option maxRecDepth 20000 in
theorem lm_mk5 (hz : lm_zr 204 m n) : ∃ m' n', lm_cal sc (d + 7) 1 [.ref 203] (lm_W 204 [(203, [])] m n ([], 599798, 6671962)) = some (.ok none, lm_w m' n' ([], 599640, 5953561)) ∧ lm_PC m n m' n' := by
  obtain ⟨m', n', e, f⟩ := lm_u47 (sc := sc) (d := d) (m := m) (n := n) (x := ([], 599640, 5953561))
  refine ⟨m', n', ?_, f⟩
  refine lm_cal_of (Y := lm_m1) rfl rfl (lm_e1_0 ?_)
  unfold lm_q1_0
  simp only [lm_K5, lm_K8, lm_K16, lm_K24, lm_K25, lm_K30, lm_K32, lm_K48, lm_K64, lm_K67, lm_K80, lm_K128, lm_K256, lm_K512, lm_K2048, lm_K2144, lm_K8192, lm_K16384, lm_K65536]
  repeat (first
    | ((with_reducible apply lm_nB); exact rfl; exact rfl; (first | exact hz.mono (by decide) | exact (hz.mono (by decide)).u (by decide) | exact ((hz.mono (by decide)).u (by decide)).u (by decide) | exact (((hz.mono (by decide)).u (by decide)).u (by decide)).u (by decide)); simp only [Nat.reduceAdd])
    | ((with_reducible apply lm_nI); exact rfl; exact rfl; (first | exact hz.mono (by decide) | exact (hz.mono (by decide)).u (by decide) | exact ((hz.mono (by decide)).u (by decide)).u (by decide) | exact (((hz.mono (by decide)).u (by decide)).u (by decide)).u (by decide)); simp only [Nat.reduceAdd])
    | ((with_reducible apply lm_nL); exact rfl; exact rfl; (first | exact hz.mono (by decide) | exact (hz.mono (by decide)).u (by decide) | exact ((hz.mono (by decide)).u (by decide)).u (by decide) | exact (((hz.mono (by decide)).u (by decide)).u (by decide)).u (by decide)); simp only [Nat.reduceAdd])
    | ((with_reducible apply lm_nO); exact rfl; exact rfl; exact rfl; (first | exact hz.mono (by decide) | exact (hz.mono (by decide)).u (by decide) | exact ((hz.mono (by decide)).u (by decide)).u (by decide) | exact (((hz.mono (by decide)).u (by decide)).u (by decide)).u (by decide)); simp only [Nat.reduceAdd])
    | ((with_reducible apply lm_nR6); exact rfl; exact rfl; (first | exact hz.mono (by decide) | exact (hz.mono (by decide)).u (by decide) | exact ((hz.mono (by decide)).u (by decide)).u (by decide) | exact (((hz.mono (by decide)).u (by decide)).u (by decide)).u (by decide)); simp only [Nat.reduceAdd])
    | ((with_reducible apply lm_nM); exact rfl; exact rfl; exact rfl; exact rfl; exact rfl; exact rfl; decide +kernel; exact hz.mono (by decide); simp only [Nat.reduceAdd])
    | ((with_reducible apply lm_nR); exact rfl; exact rfl; exact rfl; exact rfl; exact rfl; exact rfl; exact rfl)
    | ((with_reducible apply lm_nS); exact rfl; exact rfl; exact rfl; exact rfl; exact rfl)
    | ((with_reducible apply lm_sI); exact rfl)
    | ((with_reducible apply lm_sR); exact rfl)
    | ((with_reducible apply lm_sS); exact rfl; exact rfl)
    | ((with_reducible apply lm_sAA); exact rfl; exact rfl)
    | ((with_reducible apply lm_sP); exact rfl; exact rfl))
  refine lm_nX rfl ?_
  refine lm_cV e ?_
  exact rfl
end LMMM
