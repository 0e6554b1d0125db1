/-! ===== the law: its start ===== -/
/-- the memory behind the class's constructor -/
def lm_m1s : lm_MI := lm_u (lm_u (lm_dm (lm_km (lm_u (lm_u (lm_u (fun _ _ => 0) 5 1 (Int32.ofNat 168)) 11 1 (Int32.ofNat 64)) 17 1 (Int32.ofNat 128)) 256) 256) 194 1 (Int32.ofNat 5)) 194 2 (Int32.ofNat 5)
def lm_n1s : lm_ML := fun _ _ => 0
theorem lm_m1s_row {q : Nat} (h1 : q ≠ 5) (h2 : q ≠ 11) (h3 : q ≠ 17) (h4 : q ≠ 45) (h5 : q ≠ 46) (h6 : q ≠ 77) (h7 : q ≠ 194) : lm_m1s q = fun _ => 0 := by
  unfold lm_m1s
  rw [lm_u_row h7, lm_u_row h7, lm_dm_row h6, lm_km_row h4 h5, lm_u_row h3, lm_u_row h2, lm_u_row h1]
section LMLA
variable {sc : lm_H} {d : Nat}
/-- the out array -/
theorem lm_nOut {β : Type} {m : lm_MI} {n : lm_ML} {C S : Nat} {f : Nat → lm_M β} {r : Option (Except Nat β × lm_S)} (k : f 362 (lm_w m n ([.inr (.inl [0])], C, S)) = r) : lm_bind (lm_newa .long (Int32.ofNat 1)) f (lm_w m n ([], C + 1, S + 1)) = r := by
  rw [← k, lm_newa_l (by decide)]
  refine lm_bd_ok ?_
  unfold lm_push lm_w lm_W
  dsimp only
  rw [List.append_nil, lm_mk_len, if_pos ⟨by decide, by omega, by omega⟩]
  rfl
theorem lm_law0 : ∃ m' n', lm_PC lm_m1s lm_n1s m' n' ∧ ∀ r : Except Nat lm_R × lm_S, lm_rn sc (d + 8) [] (lm_reg lm_law) (23, [(0, .ref lm_B), (1, .ref 0), (2, .ref 203), (3, .ref 362), (4, .int (Int32.ofNat 0))], []) (lm_w m' n' ([.inr (.inl [0])], 599639, 5953560)) = some r → lm_rn sc (d + 8) [] (lm_reg lm_law) (0, [(0, .ref lm_B)], []) ([], 600002, 7302232) = some r := by
  have h0 : lm_zr 0 (fun _ _ => 0) (fun _ _ => 0) := fun _ _ => ⟨rfl, rfl⟩
  have z3 : lm_zr 26 (lm_u (lm_u (lm_u (fun _ _ => 0) 5 1 (Int32.ofNat 168)) 11 1 (Int32.ofNat 64)) 17 1 (Int32.ofNat 128)) (fun _ _ => 0) := ((((h0.mono (by decide)).u (by decide)).u (by decide)).u (by decide))
  have zs : lm_zr 203 lm_m1s lm_n1s := fun q hq => ⟨lm_m1s_row (by omega) (by omega) (by omega) (by omega) (by omega) (by omega) (by omega), rfl⟩
  obtain ⟨m', n', e5, f5⟩ := lm_mk5 (sc := sc) (d := d + 1) (zs.mono (by decide))
  have e0 : lm_cal sc (d + 8) 0 [.ref 0] (lm_W 1 [(0, [])] (fun _ _ => 0) (fun _ _ => 0) ([], 600001, 7302225)) = some (.ok none, lm_W 203 [] lm_m1s lm_n1s ([], 599799, 6672037)) := by
    refine lm_mk1 (d := d + 3) h0 ?_
    refine lm_mk2_0 z3 ?_
    refine lm_mk2_1 (z3.mono (by decide)) ?_
    refine lm_mk2_2 (z3.mono (by decide)) ?_
    refine lm_mk2_3 (z3.mono (by decide)) ?_
    refine lm_mk2_4 (z3.mono (by decide)) ?_
    refine lm_mk2_5 (z3.mono (by decide)) ?_
    refine lm_mk2_6 (z3.mono (by decide)) ?_
    refine lm_mk2_7 (z3.mono (by decide)) ?_
    exact lm_mk3 (z3.mono (by decide))
  refine ⟨m', n', f5, fun r K => ?_⟩
  refine lm_eL_0 ?_
  unfold lm_qL_0
  show lm_bind _ _ (lm_W 0 [] (fun _ _ => 0) (fun _ _ => 0) ([], 600002, 7302232)) = _
  refine lm_nO rfl rfl rfl h0 ?_
  refine lm_sS (c := 0) (y := 0) rfl rfl ?_
  refine lm_cV e0 ?_
  refine lm_nO rfl rfl rfl zs ?_
  refine lm_sS (c := 11) (y := 1) rfl rfl ?_
  refine lm_cV e5 ?_
  rw [lm_K1, lm_K0]
  refine lm_nOut ?_
  exact K
end LMLA
