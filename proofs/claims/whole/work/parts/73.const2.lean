/-! ===== the reference's constants, whole ===== -/
def lm_zL : Nat → Int64 := fun _ => 0
theorem lm_st0_3 {R S4 S6 J : Nat → Int64} : lm_st0' R S4 S6 3 J = lm_st0' R lm_zL lm_zL 3 J := rfl
/-- the two named starts -/
def lm_h224 (T : lm_TB) (R J : Nat → Int64) (b : Nat → Int32) : lm_HV := lm_nm T 50 52 (0, Int64.ofNat 0, lm_nx (lm_st0' R lm_zL lm_zL 3 J), b)
def lm_h256 (T : lm_TB) (R J : Nat → Int64) (b : Nat → Int32) : lm_HV := lm_nm T 53 54 (0, Int64.ofNat 0, lm_nx (lm_st0' R lm_zL lm_zL 3 (lm_h224 T R J b).2.2.1), (lm_h224 T R J b).2.2.2)
theorem lm_h224_eq {T : lm_TB} {R J : Nat → Int64} {b : Nat → Int32} : lm_h224 T R J b = lm_nm T 50 52 (0, Int64.ofNat 0, lm_nx (lm_st0' R lm_zL lm_zL 3 J), b) := rfl
theorem lm_h256_eq {T : lm_TB} {R J : Nat → Int64} {b : Nat → Int32} : lm_h256 T R J b = lm_nm T 53 54 (0, Int64.ofNat 0, lm_nx (lm_st0' R lm_zL lm_zL 3 (lm_h224 T R J b).2.2.1), (lm_h224 T R J b).2.2.2) := rfl
/-- what constants has done -/
def lm_PC (m : lm_MI) (n : lm_ML) (m' : lm_MI) (n' : lm_ML) : Prop := lm_CR n' 410 ∧ m' 221 = lm_tm m 24 221 ∧ n' 222 = lm_rq n 24 222 ∧ (∀ i, i < 8 → n' 217 i = (lm_h224 (lm_tb m' n') (n' 215) (n 223) (m 227)).2.2.1 i) ∧ (∀ i, i < 8 → n' 218 i = (lm_h256 (lm_tb m' n') (n' 215) (n 223) (m 227)).2.2.1 i) ∧ (∀ q, q ≠ 203 → q ≠ 221 → q ≠ 227 → m' q = m q) ∧ (∀ j, j ≠ 18 → j ≠ 19 → j ≠ 20 → m' 203 j = m 203 j) ∧ (∀ q, q ≠ 203 → q ≠ 215 → q ≠ 216 → q ≠ 217 → q ≠ 218 → q ≠ 219 → q ≠ 220 → q ≠ 222 → q ≠ 223 → q ≠ 224 → q ≠ 225 → q ≠ 226 → n' q = n q)
theorem lm_tm_row {m : lm_MI} {q : Nat} (h : q ≠ 221) : ∀ t, lm_tm m t q = m q := by
  intro t
  induction t with
  | zero => rfl
  | succ t ih =>
    unfold lm_tm
    rw [lm_u_row h, ih]
theorem lm_rq_row {n : lm_ML} {q : Nat} (h : q ≠ 222) : ∀ t, lm_rq n t q = n q := by
  intro t
  induction t with
  | zero => rfl
  | succ t ih =>
    unfold lm_rq
    rw [lm_u_row h, ih]
theorem lm_rq_222 {n n' : lm_ML} (h : n 222 = n' 222) : ∀ t, lm_rq n t 222 = lm_rq n' t 222 := by
  intro t
  induction t with
  | zero => exact h
  | succ t ih =>
    funext i
    show lm_u (lm_rq n t) 222 t (lm_ra t 7 0 (lm_rq n t 222 t)) 222 i = lm_u (lm_rq n' t) 222 t (lm_ra t 7 0 (lm_rq n' t 222 t)) 222 i
    rw [ih]
    by_cases c : i = t
    · subst c
      rw [lm_u_eq, lm_u_eq]
    · rw [lm_u_ne (fun g => c g.2), lm_u_ne (fun g => c g.2), ih]
section LMC8
variable {sc : lm_H} {d : Nat} {m : lm_MI} {n : lm_ML} {x : lm_H × Nat × Nat}
theorem lm_u130z {q a b : Nat} (hq : q = 217 ∨ q = 218) : ∃ m' n', lm_cal sc (d + 5) 130 [.ref 203, .ref q, .int (Int32.ofNat a), .int (Int32.ofNat b)] (lm_w m n x) = some (.ok none, lm_w m' (lm_fil n' q 0 8 (lm_nm (lm_tb m n) a b (0, Int64.ofNat 0, lm_nx (lm_st0' (n 215) lm_zL lm_zL 3 (n 223)), m 227)).2.2.1) x) ∧ lm_HS m' n' 3 128 (lm_nm (lm_tb m n) a b (0, Int64.ofNat 0, lm_nx (lm_st0' (n 215) lm_zL lm_zL 3 (n 223)), m 227)) ∧ lm_fh m n m' n' := by
  have h := lm_u130 (sc := sc) (d := d) (m := m) (n := n) (x := x) (q := q) (a := a) (b := b) hq
  rw [lm_st0_3] at h
  exact h
theorem lm_u47 : lm_RC x (lm_PC m n) (lm_cal sc (d + 6) 47 [.ref 203] (lm_w m n x)) := by
  obtain ⟨m', n', e, f⟩ := lm_l47a (sc := sc) (d := d + 2) (m := m) (x := x) (n0 := n) (Q := lm_PC m n) (fun n1 h1 h2 => by
    refine lm_l47b (n := n1) ?_ 24 0 rfl
    refine lm_l47d (d := d + 4) (n := n1) ?_ 24 0 rfl
    obtain ⟨m2, n2, c2, s2, f2⟩ := lm_u130z (sc := sc) (d := d) (m := lm_tm m 24) (n := lm_rq n1 24) (x := x) (q := 217) (a := 50) (b := 52) (Or.inl rfl)
    obtain ⟨m3, n3, c3, s3, f3⟩ := lm_u130z (sc := sc) (d := d) (m := m2) (n := lm_fil n2 217 0 8 (lm_nm (lm_tb (lm_tm m 24) (lm_rq n1 24)) 50 52 (0, Int64.ofNat 0, lm_nx (lm_st0' (lm_rq n1 24 215) lm_zL lm_zL 3 (lm_rq n1 24 223)), lm_tm m 24 227)).2.2.1) (x := x) (q := 218) (a := 53) (b := 54) (Or.inr rfl)
    have r215 : lm_rq n1 24 215 = n1 215 := lm_rq_row (by decide) 24
    have r216 : lm_rq n1 24 216 = n1 216 := lm_rq_row (by decide) 24
    have r223 : lm_rq n1 24 223 = n 223 := (lm_rq_row (by decide) 24).trans (h2 223 (by decide) (by decide) (by decide) (by decide))
    have t227 : lm_tm m 24 227 = m 227 := lm_tm_row (by decide) 24
    rw [r215, r223, t227, ← lm_h224_eq] at c2 s2 c3 s3 f3
    have fl217 : ∀ q, q ≠ 217 → lm_fil n2 217 0 8 (lm_h224 (lm_tb (lm_tm m 24) (lm_rq n1 24)) (n1 215) (n 223) (m 227)).2.2.1 q = n2 q := fun q hq => lm_fl_row hq
    have e215 : n3 215 = n1 215 := by rw [f3.2.2 215 (by decide) (by decide) (by decide) (by decide) (by decide), fl217 215 (by decide), f2.2.2 215 (by decide) (by decide) (by decide) (by decide) (by decide), r215]
    have e216 : n3 216 = n1 216 := by rw [f3.2.2 216 (by decide) (by decide) (by decide) (by decide) (by decide), fl217 216 (by decide), f2.2.2 216 (by decide) (by decide) (by decide) (by decide) (by decide), r216]
    have e222 : n3 222 = lm_rq n1 24 222 := by rw [f3.2.2 222 (by decide) (by decide) (by decide) (by decide) (by decide), fl217 222 (by decide), f2.2.2 222 (by decide) (by decide) (by decide) (by decide) (by decide)]
    have e221 : m3 221 = lm_tm m 24 221 := by rw [f3.1 221 (by decide) (by decide), f2.1 221 (by decide) (by decide)]
    have eb215 : lm_fil n2 217 0 8 (lm_h224 (lm_tb (lm_tm m 24) (lm_rq n1 24)) (n1 215) (n 223) (m 227)).2.2.1 215 = n1 215 := by rw [fl217 215 (by decide), f2.2.2 215 (by decide) (by decide) (by decide) (by decide) (by decide), r215]
    have eb223 : lm_fil n2 217 0 8 (lm_h224 (lm_tb (lm_tm m 24) (lm_rq n1 24)) (n1 215) (n 223) (m 227)).2.2.1 223 = (lm_h224 (lm_tb (lm_tm m 24) (lm_rq n1 24)) (n1 215) (n 223) (m 227)).2.2.1 := by rw [fl217 223 (by decide)]; exact s2.2.2.2.2.1
    have ebt : lm_tb m2 (lm_fil n2 217 0 8 (lm_h224 (lm_tb (lm_tm m 24) (lm_rq n1 24)) (n1 215) (n 223) (m 227)).2.2.1) = lm_tb (lm_tm m 24) (lm_rq n1 24) := Eq.trans (b := lm_tb m2 n2) (Prod.ext rfl (Prod.ext (fl217 222 (by decide)) (fl217 216 (by decide)))) f2.tb
    rw [eb215, eb223, ebt, s2.2.2.2.2.2, ← lm_h256_eq] at c3 s3
    have et : lm_tb m3 (lm_fil n3 218 0 8 (lm_h256 (lm_tb (lm_tm m 24) (lm_rq n1 24)) (n1 215) (n 223) (m 227)).2.2.1) = lm_tb (lm_tm m 24) (lm_rq n1 24) := by
      have z : ∀ g, lm_tb m3 (lm_fil n3 218 0 8 g) = lm_tb m3 n3 := fun g => Prod.ext rfl (Prod.ext (lm_fl_row (m := n3) (q := 218) (a := 0) (b := 8) (g := g) (p := 222) (by decide)) (lm_fl_row (m := n3) (q := 218) (a := 0) (b := 8) (g := g) (p := 216) (by decide)))
      rw [z]
      exact Prod.ext e221 (Prod.ext e222 (e216.trans r216.symm))
    refine ⟨m3, lm_fil n3 218 0 8 (lm_h256 (lm_tb (lm_tm m 24) (lm_rq n1 24)) (n1 215) (n 223) (m 227)).2.2.1, ?_, ?_⟩
    · refine lm_e47_122 ?_
      unfold lm_q47_122
      simp only [lm_K24, lm_K50, lm_K52, lm_K53, lm_K54]
      refine lm_geT (by decide) (by decide) (by decide) ?_
      repeat (first
    | ((with_reducible apply lm_sI); exact rfl)
    | ((with_reducible apply lm_sR); exact rfl)
    | ((with_reducible apply lm_sS); exact rfl; exact rfl)
    | ((with_reducible apply lm_sL); exact rfl)
    | ((with_reducible apply lm_sP); exact rfl; exact rfl)
    | ((with_reducible apply lm_sPL); exact rfl; exact rfl)
    | ((with_reducible apply lm_sAA); exact rfl; first | exact rfl | exact lm_roO (by omega) | exact lm_roM (by omega))
    | ((with_reducible apply lm_sI); exact lm_fpL (by omega))
    | ((with_reducible apply lm_sR); exact lm_fpB (by omega))
    | ((with_reducible apply lm_sP); exact lm_fpL (by omega); exact rfl)
    | ((with_reducible apply lm_sS); exact lm_ocO (by omega); exact rfl)
    | ((with_reducible apply lm_sA); exact rfl; omega)
    | ((with_reducible apply lm_sJ); exact rfl; omega)
    | ((with_reducible apply lm_sB); (first | exact rfl | exact lm_arB (by omega) | exact lm_arM (by omega)); omega)
    | ((with_reducible apply lm_wA); exact rfl; omega)
    | ((with_reducible apply lm_wJ); exact rfl; omega)
    | ((with_reducible apply lm_wB); (first | exact rfl | exact lm_arB (by omega) | exact lm_arM (by omega)); omega)
    | ((with_reducible apply lm_sAl); (first | exact rfl | exact lm_arB (by omega) | exact lm_arM (by omega)); omega)
    | ((with_reducible apply lm_iW); decide))
      refine lm_cV c2 ?_
      repeat (first
    | ((with_reducible apply lm_sI); exact rfl)
    | ((with_reducible apply lm_sR); exact rfl)
    | ((with_reducible apply lm_sS); exact rfl; exact rfl)
    | ((with_reducible apply lm_sL); exact rfl)
    | ((with_reducible apply lm_sP); exact rfl; exact rfl)
    | ((with_reducible apply lm_sPL); exact rfl; exact rfl)
    | ((with_reducible apply lm_sAA); exact rfl; first | exact rfl | exact lm_roO (by omega) | exact lm_roM (by omega))
    | ((with_reducible apply lm_sI); exact lm_fpL (by omega))
    | ((with_reducible apply lm_sR); exact lm_fpB (by omega))
    | ((with_reducible apply lm_sP); exact lm_fpL (by omega); exact rfl)
    | ((with_reducible apply lm_sS); exact lm_ocO (by omega); exact rfl)
    | ((with_reducible apply lm_sA); exact rfl; omega)
    | ((with_reducible apply lm_sJ); exact rfl; omega)
    | ((with_reducible apply lm_sB); (first | exact rfl | exact lm_arB (by omega) | exact lm_arM (by omega)); omega)
    | ((with_reducible apply lm_wA); exact rfl; omega)
    | ((with_reducible apply lm_wJ); exact rfl; omega)
    | ((with_reducible apply lm_wB); (first | exact rfl | exact lm_arB (by omega) | exact lm_arM (by omega)); omega)
    | ((with_reducible apply lm_sAl); (first | exact rfl | exact lm_arB (by omega) | exact lm_arM (by omega)); omega)
    | ((with_reducible apply lm_iW); decide))
      refine lm_cV c3 ?_
      exact rfl
    · refine ⟨?_, e221, ?_, ?_, ?_, ?_, ?_, ?_⟩
      · intro q a b c
        rw [lm_fl_row (by decide), lm_fl_row (by decide), e215, e216]
        exact h1 q a b c
      · rw [lm_fl_row (by decide), e222]
        exact lm_rq_222 (h2 222 (by decide) (by decide) (by decide) (by decide)) 24
      · intro i hi
        rw [et, lm_fl_row (p := 217) (by decide), lm_fl_row (p := 215) (by decide), e215, f3.2.2 217 (by decide) (by decide) (by decide) (by decide) (by decide), lm_fl_in ⟨by omega, hi⟩]
      · intro i hi
        rw [et, lm_fl_row (p := 215) (by decide), e215, lm_fl_in ⟨by omega, hi⟩]
      · intro q a b c
        rw [f3.1 q a c, f2.1 q a c, lm_tm_row b]
      · intro j a b c
        rw [f3.2.1 j a b c, f2.2.1 j a b c, lm_tm_row (by decide)]
      · intro q a1 a2 a3 a4 a5 a6 a7 a8 a9 a10 a11 a12
        rw [lm_fl_row a5, f3.2.2 q a1 a9 a10 a11 a12, fl217 q a4, f2.2.2 q a1 a9 a10 a11 a12, lm_rq_row a8]
        exact h2 q a2 a3 a6 a7) 408 2 n rfl (by decide) (fun q a b _ => by omega) (fun _ _ _ _ _ => rfl)
  refine ⟨m', n', ?_, f⟩
  refine lm_cal_of (Y := lm_m47) rfl rfl (lm_e47_0 ?_)
  unfold lm_q47_0
  rw [lm_K0, lm_K2]
  exact e
end LMC8
