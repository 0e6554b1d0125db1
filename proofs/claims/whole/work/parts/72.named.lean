/-! ===== the reference's named, constants ===== -/
/-- the beginning of SHA-512/t -/
def lm_nx (S : Nat → Int64) : Nat → Int64 := fun i => if i < 8 then S i ^^^ (Int64.ofNat 11936128518282651045) else S i
def lm_nn1 (a b : Nat) : List Int32 := [Int32.ofInt 83, Int32.ofInt 72, Int32.ofInt 65, Int32.ofInt 45, Int32.ofInt 53, Int32.ofInt 49, Int32.ofInt 50, Int32.ofInt 47, Int32.ofInt 50, Int32.ofNat a, Int32.ofNat b]
def lm_nm (T : lm_TB) (a b : Nat) (h : lm_HV) : lm_HV := lm_hf T 3 128 ((lm_nn1 a b).foldl (fun h v => lm_hp T 3 128 v h) h)
theorem lm_nm_eq {T : lm_TB} {a b : Nat} {h : lm_HV} : lm_nm T a b h = lm_hf T 3 128 (lm_hp T 3 128 (Int32.ofNat b) (lm_hp T 3 128 (Int32.ofNat a) (lm_hp T 3 128 (Int32.ofInt 50) (lm_hp T 3 128 (Int32.ofInt 47) (lm_hp T 3 128 (Int32.ofInt 50) (lm_hp T 3 128 (Int32.ofInt 49) (lm_hp T 3 128 (Int32.ofInt 53) (lm_hp T 3 128 (Int32.ofInt 45) (lm_hp T 3 128 (Int32.ofInt 65) (lm_hp T 3 128 (Int32.ofInt 72) (lm_hp T 3 128 (Int32.ofInt 83) h))))))))))) := by
  unfold lm_nm lm_nn1
  simp only [List.foldl_cons, List.foldl_nil]
section LMNM
variable {sc : lm_H} {d : Nat} {m m0 : lm_MI} {n n0 : lm_ML} {x : lm_H × Nat × Nat}
/-- a put, then the rest -/
theorem lm_pstep {k r : Nat} {h : lm_HV} {v : Int32} (hr : lm_kr k r) (hf : h.1 < r) (hS : lm_HS m n k r h) (hfr : lm_fh m0 n0 m n) :
    ∃ m1 n1, lm_cal sc (d + 3) 69 [.ref 203, .int v] (lm_w m n x) = some (.ok none, lm_w m1 n1 x) ∧ lm_HS m1 n1 k r (lm_hp (lm_tb m0 n0) k r v h) ∧ lm_fh m0 n0 m1 n1 ∧ (lm_hp (lm_tb m0 n0) k r v h).1 < r := by
  obtain ⟨m1, n1, c1, s1, f1⟩ := lm_u69 (sc := sc) (d := d) (x := x) (v := v) hr hf hS
  rw [hfr.tb] at s1
  exact ⟨m1, n1, c1, s1, hfr.tr f1, lm_hp_lt hf⟩
/-- the state laid into q -/
theorem lm_l130c {q : Nat} (hq : lm_al q = some 8) (hq2 : q ≠ 223) : ∀ j t, t + j = 8 → lm_rn sc d lm_m130.2.2.2.2.1 (lm_reg lm_m130.2.2.2.2.2) (105, [(0, .ref 203), (1, .ref q), (4, .int (Int32.ofNat t))], []) (lm_w m (lm_fil n q 0 t (n 223)) x) = some (.ok none, lm_w m (lm_fil n q 0 8 (n 223)) x) := by
  intro j
  induction j with
  | zero =>
    intro t ht
    have ht : t = 8 := ht
    subst ht
    refine lm_e130_105 ?_
    unfold lm_q130_105
    rw [lm_K8]
    exact lm_geT (by decide) (by decide) (by decide) rfl
  | succ j ih =>
    intro t ht
    refine lm_e130_105 ?_
    unfold lm_q130_105
    rw [lm_K8]
    refine lm_geF (by omega) (by omega) (by omega) ?_
    repeat (first
    | ((with_reducible apply lm_sI); exact rfl)
    | ((with_reducible apply lm_sR); exact rfl)
    | ((with_reducible apply lm_sS); exact rfl; exact rfl)
    | ((with_reducible apply lm_sL); exact rfl)
    | ((with_reducible apply lm_sP); exact rfl; exact rfl)
    | ((with_reducible apply lm_sPL); exact rfl; exact rfl)
    | ((with_reducible apply lm_sAA); exact rfl; first | exact rfl | exact lm_roO (by omega) | exact lm_roM (by omega))
    | ((with_reducible apply lm_sI); exact lm_fpL (by omega))
    | ((with_reducible apply lm_sR); exact lm_fpB (by omega))
    | ((with_reducible apply lm_sP); exact lm_fpL (by omega); exact rfl)
    | ((with_reducible apply lm_sS); exact lm_ocO (by omega); exact rfl)
    | ((with_reducible apply lm_sA); exact rfl; omega)
    | ((with_reducible apply lm_sJ); exact rfl; omega)
    | ((with_reducible apply lm_sB); (first | exact rfl | exact lm_arB (by omega) | exact lm_arM (by omega)); omega)
    | ((with_reducible apply lm_wA); exact rfl; omega)
    | ((with_reducible apply lm_wJ); exact rfl; omega)
    | ((with_reducible apply lm_wB); (first | exact rfl | exact lm_arB (by omega) | exact lm_arM (by omega)); omega)
    | ((with_reducible apply lm_sAl); (first | exact rfl | exact lm_arB (by omega) | exact lm_arM (by omega)); omega)
    | ((with_reducible apply lm_iW); decide))
    refine lm_wJ hq (by omega) ?_
    rw [lm_fl_row (Ne.symm hq2), lm_fl_step (Nat.zero_le t), show Int32.ofNat t + Int32.ofInt 1 = Int32.ofNat (t + 1) from lm_oa t 1]
    exact ih (t + 1) (by omega)
/-- the eight words changed -/
theorem lm_l130x {q : Nat} {a b : Int32} {r : Except Nat lm_R × lm_S} (K : lm_rn sc d lm_m130.2.2.2.2.1 (lm_reg lm_m130.2.2.2.2.2) (8, [(0, .ref 203), (1, .ref q), (2, .int a), (3, .int b), (4, .int (Int32.ofNat 8))], []) (lm_w m (lm_fil n 223 0 8 (fun i => n 223 i ^^^ (Int64.ofNat 11936128518282651045))) x) = some r) : ∀ j t, t + j = 8 → lm_rn sc d lm_m130.2.2.2.2.1 (lm_reg lm_m130.2.2.2.2.2) (8, [(0, .ref 203), (1, .ref q), (2, .int a), (3, .int b), (4, .int (Int32.ofNat t))], []) (lm_w m (lm_fil n 223 0 t (fun i => n 223 i ^^^ (Int64.ofNat 11936128518282651045))) x) = some r := by
  intro j
  induction j with
  | zero =>
    intro t ht
    have ht : t = 8 := ht
    subst ht
    exact K
  | succ j ih =>
    intro t ht
    refine lm_e130_8 ?_
    unfold lm_q130_8
    refine lm_geF (b := 8) (by omega) (by omega) (by omega) ?_
    repeat (first
    | ((with_reducible apply lm_sI); exact rfl)
    | ((with_reducible apply lm_sR); exact rfl)
    | ((with_reducible apply lm_sS); exact rfl; exact rfl)
    | ((with_reducible apply lm_sL); exact rfl)
    | ((with_reducible apply lm_sP); exact rfl; exact rfl)
    | ((with_reducible apply lm_sPL); exact rfl; exact rfl)
    | ((with_reducible apply lm_sAA); exact rfl; first | exact rfl | exact lm_roO (by omega) | exact lm_roM (by omega))
    | ((with_reducible apply lm_sI); exact lm_fpL (by omega))
    | ((with_reducible apply lm_sR); exact lm_fpB (by omega))
    | ((with_reducible apply lm_sP); exact lm_fpL (by omega); exact rfl)
    | ((with_reducible apply lm_sS); exact lm_ocO (by omega); exact rfl)
    | ((with_reducible apply lm_sA); exact rfl; omega)
    | ((with_reducible apply lm_sJ); exact rfl; omega)
    | ((with_reducible apply lm_sB); (first | exact rfl | exact lm_arB (by omega) | exact lm_arM (by omega)); omega)
    | ((with_reducible apply lm_wA); exact rfl; omega)
    | ((with_reducible apply lm_wJ); exact rfl; omega)
    | ((with_reducible apply lm_wB); (first | exact rfl | exact lm_arB (by omega) | exact lm_arM (by omega)); omega)
    | ((with_reducible apply lm_sAl); (first | exact rfl | exact lm_arB (by omega) | exact lm_arM (by omega)); omega)
    | ((with_reducible apply lm_iW); decide))
    rw [lm_fl_out (by omega), lm_fl_step (g := fun i => n 223 i ^^^ (Int64.ofNat 11936128518282651045)) (Nat.zero_le t), show Int32.ofNat t + Int32.ofInt 1 = Int32.ofNat (t + 1) from lm_oa t 1]
    exact ih (t + 1) (by omega)
/-- named -/
theorem lm_u130 {q a b : Nat} (hq : q = 217 ∨ q = 218) : ∃ m' n', lm_cal sc (d + 5) 130 [.ref 203, .ref q, .int (Int32.ofNat a), .int (Int32.ofNat b)] (lm_w m n x) = some (.ok none, lm_w m' (lm_fil n' q 0 8 (lm_nm (lm_tb m n) a b (0, Int64.ofNat 0, lm_nx (lm_st0' (n 215) (n 217) (n 218) 3 (n 223)), m 227)).2.2.1) x) ∧ lm_HS m' n' 3 128 (lm_nm (lm_tb m n) a b (0, Int64.ofNat 0, lm_nx (lm_st0' (n 215) (n 217) (n 218) 3 (n 223)), m 227)) ∧ lm_fh m n m' n' := by
  have hkr : lm_kr 3 128 := ⟨by decide, by decide, fun _ => Or.inr rfl⟩
  obtain ⟨m1, n1, c1, s1, f1⟩ := lm_u61 (sc := sc) (d := d + 2) (k := 3) (m := m) (n := n) (x := x) (by decide) (by decide)
  have s1' : lm_HS m1 (lm_fil n1 223 0 8 (fun i => n1 223 i ^^^ (Int64.ofNat 11936128518282651045))) 3 128 (0, Int64.ofNat 0, lm_nx (lm_st0' (n 215) (n 217) (n 218) 3 (n 223)), m 227) := by
    obtain ⟨a1, a2, a3, a4, a5, a6⟩ := s1
    refine ⟨a1, a2, a3, ?_, ?_, a6⟩
    · rw [lm_fl_row (by decide)]; exact a4
    · funext i
      rw [lm_rf]
      show _ = if i < 8 then _ else _
      by_cases c : i < 8
      · rw [if_pos ⟨rfl, by omega, c⟩, if_pos c, a5]
      · rw [if_neg (fun g => c g.2.2), if_neg c, a5]
  have f1' : lm_fh m n m1 (lm_fil n1 223 0 8 (fun i => n1 223 i ^^^ (Int64.ofNat 11936128518282651045))) := f1.tr ⟨fun _ _ _ => rfl, fun _ _ _ _ => rfl, fun q _ b _ _ _ => lm_fl_row b⟩
  have l0 : (0 : Nat) < 128 := by decide
  obtain ⟨p1, r1, b1, t1, g1, l1⟩ := lm_pstep (sc := sc) (d := d + 1) (x := x) (v := Int32.ofInt 83) hkr l0 s1' f1'
  obtain ⟨p2, r2, b2, t2, g2, l2⟩ := lm_pstep (sc := sc) (d := d + 1) (x := x) (v := Int32.ofInt 72) hkr l1 t1 g1
  obtain ⟨p3, r3, b3, t3, g3, l3⟩ := lm_pstep (sc := sc) (d := d + 1) (x := x) (v := Int32.ofInt 65) hkr l2 t2 g2
  obtain ⟨p4, r4, b4, t4, g4, l4⟩ := lm_pstep (sc := sc) (d := d + 1) (x := x) (v := Int32.ofInt 45) hkr l3 t3 g3
  obtain ⟨p5, r5, b5, t5, g5, l5⟩ := lm_pstep (sc := sc) (d := d + 1) (x := x) (v := Int32.ofInt 53) hkr l4 t4 g4
  obtain ⟨p6, r6, b6, t6, g6, l6⟩ := lm_pstep (sc := sc) (d := d + 1) (x := x) (v := Int32.ofInt 49) hkr l5 t5 g5
  obtain ⟨p7, r7, b7, t7, g7, l7⟩ := lm_pstep (sc := sc) (d := d + 1) (x := x) (v := Int32.ofInt 50) hkr l6 t6 g6
  obtain ⟨p8, r8, b8, t8, g8, l8⟩ := lm_pstep (sc := sc) (d := d + 1) (x := x) (v := Int32.ofInt 47) hkr l7 t7 g7
  obtain ⟨p9, r9, b9, t9, g9, l9⟩ := lm_pstep (sc := sc) (d := d + 1) (x := x) (v := Int32.ofInt 50) hkr l8 t8 g8
  obtain ⟨p10, r10, b10, t10, g10, l10⟩ := lm_pstep (sc := sc) (d := d + 1) (x := x) (v := Int32.ofNat a) hkr l9 t9 g9
  obtain ⟨p11, r11, b11, t11, g11, l11⟩ := lm_pstep (sc := sc) (d := d + 1) (x := x) (v := Int32.ofNat b) hkr l10 t10 g10
  obtain ⟨mf, nf, cf, sf, ff⟩ := lm_u147 (sc := sc) (d := d) (x := x) hkr (by decide) l11 t11
  rw [g11.tb, ← lm_nm_eq] at sf
  refine ⟨mf, nf, ?_, sf, g11.tr ff⟩
  refine lm_cal_of (Y := lm_m130) rfl rfl (lm_e130_0 ?_)
  unfold lm_q130_0
  repeat (first
    | ((with_reducible apply lm_sI); exact rfl)
    | ((with_reducible apply lm_sR); exact rfl)
    | ((with_reducible apply lm_sS); exact rfl; exact rfl)
    | ((with_reducible apply lm_sL); exact rfl)
    | ((with_reducible apply lm_sP); exact rfl; exact rfl)
    | ((with_reducible apply lm_sPL); exact rfl; exact rfl)
    | ((with_reducible apply lm_sAA); exact rfl; first | exact rfl | exact lm_roO (by omega) | exact lm_roM (by omega))
    | ((with_reducible apply lm_sI); exact lm_fpL (by omega))
    | ((with_reducible apply lm_sR); exact lm_fpB (by omega))
    | ((with_reducible apply lm_sP); exact lm_fpL (by omega); exact rfl)
    | ((with_reducible apply lm_sS); exact lm_ocO (by omega); exact rfl)
    | ((with_reducible apply lm_sA); exact rfl; omega)
    | ((with_reducible apply lm_sJ); exact rfl; omega)
    | ((with_reducible apply lm_sB); (first | exact rfl | exact lm_arB (by omega) | exact lm_arM (by omega)); omega)
    | ((with_reducible apply lm_wA); exact rfl; omega)
    | ((with_reducible apply lm_wJ); exact rfl; omega)
    | ((with_reducible apply lm_wB); (first | exact rfl | exact lm_arB (by omega) | exact lm_arM (by omega)); omega)
    | ((with_reducible apply lm_sAl); (first | exact rfl | exact lm_arB (by omega) | exact lm_arM (by omega)); omega)
    | ((with_reducible apply lm_iW); decide))
  refine lm_cV c1 ?_
  rw [lm_K0]
  have h := lm_l130x (sc := sc) (d := d + 4) (m := m1) (n := n1) (x := x) (q := q) (a := Int32.ofNat a) (b := Int32.ofNat b) (r := (.ok none, lm_w mf (lm_fil nf q 0 8 (lm_nm (lm_tb m n) a b (0, Int64.ofNat 0, lm_nx (lm_st0' (n 215) (n 217) (n 218) 3 (n 223)), m 227)).2.2.1) x)) ?_ 8 0 rfl
  · rw [lm_fl_nil] at h
    exact h
  refine lm_e130_8 ?_
  unfold lm_q130_8
  refine lm_geT (b := 8) (by decide) (by decide) (by decide) ?_
  repeat (first
    | ((with_reducible apply lm_sI); exact rfl)
    | ((with_reducible apply lm_sR); exact rfl)
    | ((with_reducible apply lm_sS); exact rfl; exact rfl)
    | ((with_reducible apply lm_sL); exact rfl)
    | ((with_reducible apply lm_sP); exact rfl; exact rfl)
    | ((with_reducible apply lm_sPL); exact rfl; exact rfl)
    | ((with_reducible apply lm_sAA); exact rfl; first | exact rfl | exact lm_roO (by omega) | exact lm_roM (by omega))
    | ((with_reducible apply lm_sI); exact lm_fpL (by omega))
    | ((with_reducible apply lm_sR); exact lm_fpB (by omega))
    | ((with_reducible apply lm_sP); exact lm_fpL (by omega); exact rfl)
    | ((with_reducible apply lm_sS); exact lm_ocO (by omega); exact rfl)
    | ((with_reducible apply lm_sA); exact rfl; omega)
    | ((with_reducible apply lm_sJ); exact rfl; omega)
    | ((with_reducible apply lm_sB); (first | exact rfl | exact lm_arB (by omega) | exact lm_arM (by omega)); omega)
    | ((with_reducible apply lm_wA); exact rfl; omega)
    | ((with_reducible apply lm_wJ); exact rfl; omega)
    | ((with_reducible apply lm_wB); (first | exact rfl | exact lm_arB (by omega) | exact lm_arM (by omega)); omega)
    | ((with_reducible apply lm_sAl); (first | exact rfl | exact lm_arB (by omega) | exact lm_arM (by omega)); omega)
    | ((with_reducible apply lm_iW); decide))
  refine lm_cV b1 ?_
  repeat (first
    | ((with_reducible apply lm_sI); exact rfl)
    | ((with_reducible apply lm_sR); exact rfl)
    | ((with_reducible apply lm_sS); exact rfl; exact rfl)
    | ((with_reducible apply lm_sL); exact rfl)
    | ((with_reducible apply lm_sP); exact rfl; exact rfl)
    | ((with_reducible apply lm_sPL); exact rfl; exact rfl)
    | ((with_reducible apply lm_sAA); exact rfl; first | exact rfl | exact lm_roO (by omega) | exact lm_roM (by omega))
    | ((with_reducible apply lm_sI); exact lm_fpL (by omega))
    | ((with_reducible apply lm_sR); exact lm_fpB (by omega))
    | ((with_reducible apply lm_sP); exact lm_fpL (by omega); exact rfl)
    | ((with_reducible apply lm_sS); exact lm_ocO (by omega); exact rfl)
    | ((with_reducible apply lm_sA); exact rfl; omega)
    | ((with_reducible apply lm_sJ); exact rfl; omega)
    | ((with_reducible apply lm_sB); (first | exact rfl | exact lm_arB (by omega) | exact lm_arM (by omega)); omega)
    | ((with_reducible apply lm_wA); exact rfl; omega)
    | ((with_reducible apply lm_wJ); exact rfl; omega)
    | ((with_reducible apply lm_wB); (first | exact rfl | exact lm_arB (by omega) | exact lm_arM (by omega)); omega)
    | ((with_reducible apply lm_sAl); (first | exact rfl | exact lm_arB (by omega) | exact lm_arM (by omega)); omega)
    | ((with_reducible apply lm_iW); decide))
  refine lm_cV b2 ?_
  repeat (first
    | ((with_reducible apply lm_sI); exact rfl)
    | ((with_reducible apply lm_sR); exact rfl)
    | ((with_reducible apply lm_sS); exact rfl; exact rfl)
    | ((with_reducible apply lm_sL); exact rfl)
    | ((with_reducible apply lm_sP); exact rfl; exact rfl)
    | ((with_reducible apply lm_sPL); exact rfl; exact rfl)
    | ((with_reducible apply lm_sAA); exact rfl; first | exact rfl | exact lm_roO (by omega) | exact lm_roM (by omega))
    | ((with_reducible apply lm_sI); exact lm_fpL (by omega))
    | ((with_reducible apply lm_sR); exact lm_fpB (by omega))
    | ((with_reducible apply lm_sP); exact lm_fpL (by omega); exact rfl)
    | ((with_reducible apply lm_sS); exact lm_ocO (by omega); exact rfl)
    | ((with_reducible apply lm_sA); exact rfl; omega)
    | ((with_reducible apply lm_sJ); exact rfl; omega)
    | ((with_reducible apply lm_sB); (first | exact rfl | exact lm_arB (by omega) | exact lm_arM (by omega)); omega)
    | ((with_reducible apply lm_wA); exact rfl; omega)
    | ((with_reducible apply lm_wJ); exact rfl; omega)
    | ((with_reducible apply lm_wB); (first | exact rfl | exact lm_arB (by omega) | exact lm_arM (by omega)); omega)
    | ((with_reducible apply lm_sAl); (first | exact rfl | exact lm_arB (by omega) | exact lm_arM (by omega)); omega)
    | ((with_reducible apply lm_iW); decide))
  refine lm_cV b3 ?_
  repeat (first
    | ((with_reducible apply lm_sI); exact rfl)
    | ((with_reducible apply lm_sR); exact rfl)
    | ((with_reducible apply lm_sS); exact rfl; exact rfl)
    | ((with_reducible apply lm_sL); exact rfl)
    | ((with_reducible apply lm_sP); exact rfl; exact rfl)
    | ((with_reducible apply lm_sPL); exact rfl; exact rfl)
    | ((with_reducible apply lm_sAA); exact rfl; first | exact rfl | exact lm_roO (by omega) | exact lm_roM (by omega))
    | ((with_reducible apply lm_sI); exact lm_fpL (by omega))
    | ((with_reducible apply lm_sR); exact lm_fpB (by omega))
    | ((with_reducible apply lm_sP); exact lm_fpL (by omega); exact rfl)
    | ((with_reducible apply lm_sS); exact lm_ocO (by omega); exact rfl)
    | ((with_reducible apply lm_sA); exact rfl; omega)
    | ((with_reducible apply lm_sJ); exact rfl; omega)
    | ((with_reducible apply lm_sB); (first | exact rfl | exact lm_arB (by omega) | exact lm_arM (by omega)); omega)
    | ((with_reducible apply lm_wA); exact rfl; omega)
    | ((with_reducible apply lm_wJ); exact rfl; omega)
    | ((with_reducible apply lm_wB); (first | exact rfl | exact lm_arB (by omega) | exact lm_arM (by omega)); omega)
    | ((with_reducible apply lm_sAl); (first | exact rfl | exact lm_arB (by omega) | exact lm_arM (by omega)); omega)
    | ((with_reducible apply lm_iW); decide))
  refine lm_cV b4 ?_
  repeat (first
    | ((with_reducible apply lm_sI); exact rfl)
    | ((with_reducible apply lm_sR); exact rfl)
    | ((with_reducible apply lm_sS); exact rfl; exact rfl)
    | ((with_reducible apply lm_sL); exact rfl)
    | ((with_reducible apply lm_sP); exact rfl; exact rfl)
    | ((with_reducible apply lm_sPL); exact rfl; exact rfl)
    | ((with_reducible apply lm_sAA); exact rfl; first | exact rfl | exact lm_roO (by omega) | exact lm_roM (by omega))
    | ((with_reducible apply lm_sI); exact lm_fpL (by omega))
    | ((with_reducible apply lm_sR); exact lm_fpB (by omega))
    | ((with_reducible apply lm_sP); exact lm_fpL (by omega); exact rfl)
    | ((with_reducible apply lm_sS); exact lm_ocO (by omega); exact rfl)
    | ((with_reducible apply lm_sA); exact rfl; omega)
    | ((with_reducible apply lm_sJ); exact rfl; omega)
    | ((with_reducible apply lm_sB); (first | exact rfl | exact lm_arB (by omega) | exact lm_arM (by omega)); omega)
    | ((with_reducible apply lm_wA); exact rfl; omega)
    | ((with_reducible apply lm_wJ); exact rfl; omega)
    | ((with_reducible apply lm_wB); (first | exact rfl | exact lm_arB (by omega) | exact lm_arM (by omega)); omega)
    | ((with_reducible apply lm_sAl); (first | exact rfl | exact lm_arB (by omega) | exact lm_arM (by omega)); omega)
    | ((with_reducible apply lm_iW); decide))
  refine lm_cV b5 ?_
  repeat (first
    | ((with_reducible apply lm_sI); exact rfl)
    | ((with_reducible apply lm_sR); exact rfl)
    | ((with_reducible apply lm_sS); exact rfl; exact rfl)
    | ((with_reducible apply lm_sL); exact rfl)
    | ((with_reducible apply lm_sP); exact rfl; exact rfl)
    | ((with_reducible apply lm_sPL); exact rfl; exact rfl)
    | ((with_reducible apply lm_sAA); exact rfl; first | exact rfl | exact lm_roO (by omega) | exact lm_roM (by omega))
    | ((with_reducible apply lm_sI); exact lm_fpL (by omega))
    | ((with_reducible apply lm_sR); exact lm_fpB (by omega))
    | ((with_reducible apply lm_sP); exact lm_fpL (by omega); exact rfl)
    | ((with_reducible apply lm_sS); exact lm_ocO (by omega); exact rfl)
    | ((with_reducible apply lm_sA); exact rfl; omega)
    | ((with_reducible apply lm_sJ); exact rfl; omega)
    | ((with_reducible apply lm_sB); (first | exact rfl | exact lm_arB (by omega) | exact lm_arM (by omega)); omega)
    | ((with_reducible apply lm_wA); exact rfl; omega)
    | ((with_reducible apply lm_wJ); exact rfl; omega)
    | ((with_reducible apply lm_wB); (first | exact rfl | exact lm_arB (by omega) | exact lm_arM (by omega)); omega)
    | ((with_reducible apply lm_sAl); (first | exact rfl | exact lm_arB (by omega) | exact lm_arM (by omega)); omega)
    | ((with_reducible apply lm_iW); decide))
  refine lm_cV b6 ?_
  repeat (first
    | ((with_reducible apply lm_sI); exact rfl)
    | ((with_reducible apply lm_sR); exact rfl)
    | ((with_reducible apply lm_sS); exact rfl; exact rfl)
    | ((with_reducible apply lm_sL); exact rfl)
    | ((with_reducible apply lm_sP); exact rfl; exact rfl)
    | ((with_reducible apply lm_sPL); exact rfl; exact rfl)
    | ((with_reducible apply lm_sAA); exact rfl; first | exact rfl | exact lm_roO (by omega) | exact lm_roM (by omega))
    | ((with_reducible apply lm_sI); exact lm_fpL (by omega))
    | ((with_reducible apply lm_sR); exact lm_fpB (by omega))
    | ((with_reducible apply lm_sP); exact lm_fpL (by omega); exact rfl)
    | ((with_reducible apply lm_sS); exact lm_ocO (by omega); exact rfl)
    | ((with_reducible apply lm_sA); exact rfl; omega)
    | ((with_reducible apply lm_sJ); exact rfl; omega)
    | ((with_reducible apply lm_sB); (first | exact rfl | exact lm_arB (by omega) | exact lm_arM (by omega)); omega)
    | ((with_reducible apply lm_wA); exact rfl; omega)
    | ((with_reducible apply lm_wJ); exact rfl; omega)
    | ((with_reducible apply lm_wB); (first | exact rfl | exact lm_arB (by omega) | exact lm_arM (by omega)); omega)
    | ((with_reducible apply lm_sAl); (first | exact rfl | exact lm_arB (by omega) | exact lm_arM (by omega)); omega)
    | ((with_reducible apply lm_iW); decide))
  refine lm_cV b7 ?_
  repeat (first
    | ((with_reducible apply lm_sI); exact rfl)
    | ((with_reducible apply lm_sR); exact rfl)
    | ((with_reducible apply lm_sS); exact rfl; exact rfl)
    | ((with_reducible apply lm_sL); exact rfl)
    | ((with_reducible apply lm_sP); exact rfl; exact rfl)
    | ((with_reducible apply lm_sPL); exact rfl; exact rfl)
    | ((with_reducible apply lm_sAA); exact rfl; first | exact rfl | exact lm_roO (by omega) | exact lm_roM (by omega))
    | ((with_reducible apply lm_sI); exact lm_fpL (by omega))
    | ((with_reducible apply lm_sR); exact lm_fpB (by omega))
    | ((with_reducible apply lm_sP); exact lm_fpL (by omega); exact rfl)
    | ((with_reducible apply lm_sS); exact lm_ocO (by omega); exact rfl)
    | ((with_reducible apply lm_sA); exact rfl; omega)
    | ((with_reducible apply lm_sJ); exact rfl; omega)
    | ((with_reducible apply lm_sB); (first | exact rfl | exact lm_arB (by omega) | exact lm_arM (by omega)); omega)
    | ((with_reducible apply lm_wA); exact rfl; omega)
    | ((with_reducible apply lm_wJ); exact rfl; omega)
    | ((with_reducible apply lm_wB); (first | exact rfl | exact lm_arB (by omega) | exact lm_arM (by omega)); omega)
    | ((with_reducible apply lm_sAl); (first | exact rfl | exact lm_arB (by omega) | exact lm_arM (by omega)); omega)
    | ((with_reducible apply lm_iW); decide))
  refine lm_cV b8 ?_
  repeat (first
    | ((with_reducible apply lm_sI); exact rfl)
    | ((with_reducible apply lm_sR); exact rfl)
    | ((with_reducible apply lm_sS); exact rfl; exact rfl)
    | ((with_reducible apply lm_sL); exact rfl)
    | ((with_reducible apply lm_sP); exact rfl; exact rfl)
    | ((with_reducible apply lm_sPL); exact rfl; exact rfl)
    | ((with_reducible apply lm_sAA); exact rfl; first | exact rfl | exact lm_roO (by omega) | exact lm_roM (by omega))
    | ((with_reducible apply lm_sI); exact lm_fpL (by omega))
    | ((with_reducible apply lm_sR); exact lm_fpB (by omega))
    | ((with_reducible apply lm_sP); exact lm_fpL (by omega); exact rfl)
    | ((with_reducible apply lm_sS); exact lm_ocO (by omega); exact rfl)
    | ((with_reducible apply lm_sA); exact rfl; omega)
    | ((with_reducible apply lm_sJ); exact rfl; omega)
    | ((with_reducible apply lm_sB); (first | exact rfl | exact lm_arB (by omega) | exact lm_arM (by omega)); omega)
    | ((with_reducible apply lm_wA); exact rfl; omega)
    | ((with_reducible apply lm_wJ); exact rfl; omega)
    | ((with_reducible apply lm_wB); (first | exact rfl | exact lm_arB (by omega) | exact lm_arM (by omega)); omega)
    | ((with_reducible apply lm_sAl); (first | exact rfl | exact lm_arB (by omega) | exact lm_arM (by omega)); omega)
    | ((with_reducible apply lm_iW); decide))
  refine lm_cV b9 ?_
  repeat (first
    | ((with_reducible apply lm_sI); exact rfl)
    | ((with_reducible apply lm_sR); exact rfl)
    | ((with_reducible apply lm_sS); exact rfl; exact rfl)
    | ((with_reducible apply lm_sL); exact rfl)
    | ((with_reducible apply lm_sP); exact rfl; exact rfl)
    | ((with_reducible apply lm_sPL); exact rfl; exact rfl)
    | ((with_reducible apply lm_sAA); exact rfl; first | exact rfl | exact lm_roO (by omega) | exact lm_roM (by omega))
    | ((with_reducible apply lm_sI); exact lm_fpL (by omega))
    | ((with_reducible apply lm_sR); exact lm_fpB (by omega))
    | ((with_reducible apply lm_sP); exact lm_fpL (by omega); exact rfl)
    | ((with_reducible apply lm_sS); exact lm_ocO (by omega); exact rfl)
    | ((with_reducible apply lm_sA); exact rfl; omega)
    | ((with_reducible apply lm_sJ); exact rfl; omega)
    | ((with_reducible apply lm_sB); (first | exact rfl | exact lm_arB (by omega) | exact lm_arM (by omega)); omega)
    | ((with_reducible apply lm_wA); exact rfl; omega)
    | ((with_reducible apply lm_wJ); exact rfl; omega)
    | ((with_reducible apply lm_wB); (first | exact rfl | exact lm_arB (by omega) | exact lm_arM (by omega)); omega)
    | ((with_reducible apply lm_sAl); (first | exact rfl | exact lm_arB (by omega) | exact lm_arM (by omega)); omega)
    | ((with_reducible apply lm_iW); decide))
  refine lm_cV b10 ?_
  repeat (first
    | ((with_reducible apply lm_sI); exact rfl)
    | ((with_reducible apply lm_sR); exact rfl)
    | ((with_reducible apply lm_sS); exact rfl; exact rfl)
    | ((with_reducible apply lm_sL); exact rfl)
    | ((with_reducible apply lm_sP); exact rfl; exact rfl)
    | ((with_reducible apply lm_sPL); exact rfl; exact rfl)
    | ((with_reducible apply lm_sAA); exact rfl; first | exact rfl | exact lm_roO (by omega) | exact lm_roM (by omega))
    | ((with_reducible apply lm_sI); exact lm_fpL (by omega))
    | ((with_reducible apply lm_sR); exact lm_fpB (by omega))
    | ((with_reducible apply lm_sP); exact lm_fpL (by omega); exact rfl)
    | ((with_reducible apply lm_sS); exact lm_ocO (by omega); exact rfl)
    | ((with_reducible apply lm_sA); exact rfl; omega)
    | ((with_reducible apply lm_sJ); exact rfl; omega)
    | ((with_reducible apply lm_sB); (first | exact rfl | exact lm_arB (by omega) | exact lm_arM (by omega)); omega)
    | ((with_reducible apply lm_wA); exact rfl; omega)
    | ((with_reducible apply lm_wJ); exact rfl; omega)
    | ((with_reducible apply lm_wB); (first | exact rfl | exact lm_arB (by omega) | exact lm_arM (by omega)); omega)
    | ((with_reducible apply lm_sAl); (first | exact rfl | exact lm_arB (by omega) | exact lm_arM (by omega)); omega)
    | ((with_reducible apply lm_iW); decide))
  refine lm_cV b11 ?_
  repeat (first
    | ((with_reducible apply lm_sI); exact rfl)
    | ((with_reducible apply lm_sR); exact rfl)
    | ((with_reducible apply lm_sS); exact rfl; exact rfl)
    | ((with_reducible apply lm_sL); exact rfl)
    | ((with_reducible apply lm_sP); exact rfl; exact rfl)
    | ((with_reducible apply lm_sPL); exact rfl; exact rfl)
    | ((with_reducible apply lm_sAA); exact rfl; first | exact rfl | exact lm_roO (by omega) | exact lm_roM (by omega))
    | ((with_reducible apply lm_sI); exact lm_fpL (by omega))
    | ((with_reducible apply lm_sR); exact lm_fpB (by omega))
    | ((with_reducible apply lm_sP); exact lm_fpL (by omega); exact rfl)
    | ((with_reducible apply lm_sS); exact lm_ocO (by omega); exact rfl)
    | ((with_reducible apply lm_sA); exact rfl; omega)
    | ((with_reducible apply lm_sJ); exact rfl; omega)
    | ((with_reducible apply lm_sB); (first | exact rfl | exact lm_arB (by omega) | exact lm_arM (by omega)); omega)
    | ((with_reducible apply lm_wA); exact rfl; omega)
    | ((with_reducible apply lm_wJ); exact rfl; omega)
    | ((with_reducible apply lm_wB); (first | exact rfl | exact lm_arB (by omega) | exact lm_arM (by omega)); omega)
    | ((with_reducible apply lm_sAl); (first | exact rfl | exact lm_arB (by omega) | exact lm_arM (by omega)); omega)
    | ((with_reducible apply lm_iW); decide))
  refine lm_cV cf ?_
  rw [lm_K0]
  have e223 : nf 223 = (lm_nm (lm_tb m n) a b (0, Int64.ofNat 0, lm_nx (lm_st0' (n 215) (n 217) (n 218) 3 (n 223)), m 227)).2.2.1 := sf.2.2.2.2.1
  have h2 : lm_al q = some 8 := by rcases hq with hq | hq <;> rw [hq] <;> rfl
  have h9 := lm_l130c (sc := sc) (d := d + 4) (m := mf) (n := nf) (x := x) (q := q) h2 (by omega) 8 0 rfl
  rw [lm_fl_nil, e223] at h9
  exact h9
end LMNM
