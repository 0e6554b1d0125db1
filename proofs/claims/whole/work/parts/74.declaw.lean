/-! ===== printed by my program: the regions of the law ===== -/
/-- LatticeSuiteLaw.law, from 0 on -/
noncomputable def lm_qL_0 (sc : lm_H) (A : Nat → List Value → lm_M lm_R) (B : lm_F → lm_M lm_R) (x0 : Nat) : lm_M lm_R :=
  lm_bind (lm_push (.inr (.inr (.inr (0, [.null, .null, .null, .null, .null, .null, .null])))) 7) fun q1 =>
  lm_bind (lm_sel [(0, 0)] (some (.ref q1))) fun y2 =>
  lm_bind (lm_asV (A y2 [.ref q1])) fun _ =>
  lm_bind (lm_push (.inr (.inr (.inr (11, [.null, .null, .null, .int 0, .int 0, .null, .null, .null, .null, .null, .null, .null, .null, .null, .null, .null, .null, .null, .int 0, .int 0, .int 0, .long 0, .null, .null, .int 0, .null, .null, .null, .null, .null, .null, .null, .int 0, .int 0, .int 0, .int 0, .null, .null, .null, .null, .null, .null, .int 0, .int 0, .int 0, .int 0, .int 0, .int 0, .int 0, .int 0, .null, .null, .null, .null, .null, .null, .null, .null, .null, .null, .null, .null, .null, .null, .null, .null, .null, .int 0, .int 0, .int 0, .int 0, .int 0, .int 0, .int 0, .int 0])))) 75) fun q3 =>
  lm_bind (lm_sel [(11, 1)] (some (.ref q3))) fun y4 =>
  lm_bind (lm_asV (A y4 [.ref q3])) fun _ =>
  lm_bind (lm_newa .long (Int32.ofInt 1)) fun q5 =>
  B (23, [(0, .ref x0), (1, .ref q1), (2, .ref q3), (3, .ref q5), (4, .int (Int32.ofInt 0))], [])
set_option maxRecDepth 100000 in
theorem lm_eL_0 {sc : lm_H} {d : Nat} {x0 : Nat} {σ : lm_S} {r : Except Nat lm_R × lm_S} (h : lm_qL_0 sc (lm_cal sc d) (lm_rn sc d [] (lm_reg lm_law)) x0  σ = some r) : lm_rn sc d [] (lm_reg lm_law) (0, [(0, .ref x0)], []) σ = some r := lm_rn_of h
/-- LatticeSuiteLaw.law, from 23 on -/
noncomputable def lm_qL_23 (sc : lm_H) (A : Nat → List Value → lm_M lm_R) (B : lm_F → lm_M lm_R) (x0 : Nat) (x1 : Nat) (x2 : Nat) (x3 : Nat) (x4 : Int32) : lm_M lm_R :=
  lm_bind (lm_alen sc x0) fun v1 =>
  lm_if .gt x4 (v1 - (Int32.ofInt 6)) (lm_when ((Int32.ofInt 1) = 0 ∨ (Int32.ofInt 1) = 1) inferInstance (lm_ret (some (.int (Int32.ofInt 1))))) (lm_bind (lm_iald sc x0 x4) fun v2 =>
  if ((v2 &&& (Int32.ofInt 31))).toInt < 0 ∨ 18 < ((v2 &&& (Int32.ofInt 31))).toInt then B (1456, [(0, .ref x0), (1, .ref x1), (2, .ref x2), (3, .ref x3), (4, .int x4)], []) else lm_opt ((#[92, 196, 264, 332, 400, 480, 536, 603, 678, 746, 802, 858, 914, 970, 1038, 1113, 1169, 1237, 1312] : Array Int)[(((v2 &&& (Int32.ofInt 31))).toInt - 0).toNat]?) fun off => B (lm_tgt 40 off, [(0, .ref x0), (1, .ref x1), (2, .ref x2), (3, .ref x3), (4, .int x4)], []))
set_option maxRecDepth 100000 in
theorem lm_eL_23 {sc : lm_H} {d : Nat} {x0 : Nat} {x1 : Nat} {x2 : Nat} {x3 : Nat} {x4 : Int32} {σ : lm_S} {r : Except Nat lm_R × lm_S} (h : lm_qL_23 sc (lm_cal sc d) (lm_rn sc d [] (lm_reg lm_law)) x0 x1 x2 x3 x4  σ = some r) : lm_rn sc d [] (lm_reg lm_law) (23, [(0, .ref x0), (1, .ref x1), (2, .ref x2), (3, .ref x3), (4, .int x4)], []) σ = some r := lm_rn_of h
/-- LatticeSuiteLaw.law, from 1456 on -/
noncomputable def lm_qL_1456 (sc : lm_H) (A : Nat → List Value → lm_M lm_R) (B : lm_F → lm_M lm_R) (x0 : Nat) (x1 : Nat) (x2 : Nat) (x3 : Nat) (x4 : Int32) : lm_M lm_R :=
  B (23, [(0, .ref x0), (1, .ref x1), (2, .ref x2), (3, .ref x3), (4, .int (x4 + Int32.ofInt 6))], [])
set_option maxRecDepth 100000 in
theorem lm_eL_1456 {sc : lm_H} {d : Nat} {x0 : Nat} {x1 : Nat} {x2 : Nat} {x3 : Nat} {x4 : Int32} {σ : lm_S} {r : Except Nat lm_R × lm_S} (h : lm_qL_1456 sc (lm_cal sc d) (lm_rn sc d [] (lm_reg lm_law)) x0 x1 x2 x3 x4  σ = some r) : lm_rn sc d [] (lm_reg lm_law) (1456, [(0, .ref x0), (1, .ref x1), (2, .ref x2), (3, .ref x3), (4, .int x4)], []) σ = some r := lm_rn_of h
/-- LatticeSuiteLaw.law, from 132 on -/
noncomputable def lm_qL_132 (sc : lm_H) (A : Nat → List Value → lm_M lm_R) (B : lm_F → lm_M lm_R) (x0 : Nat) (x1 : Nat) (x2 : Nat) (x3 : Nat) (x4 : Int32) : lm_M lm_R :=
  lm_bind (lm_iald sc x0 (x4 + (Int32.ofInt 1))) fun v1 =>
  lm_bind (lm_iald sc x0 (x4 + (Int32.ofInt 2))) fun v2 =>
  lm_bind (lm_iald sc x0 (x4 + (Int32.ofInt 3))) fun v3 =>
  lm_bind (lm_iald sc x0 (x4 + (Int32.ofInt 4))) fun v4 =>
  lm_bind (lm_iald sc x0 (x4 + (Int32.ofInt 5))) fun v5 =>
  lm_bind (lm_asI (A 2 [.ref x1, .int v1, .int v2, .int v3, .int v4, .int v5, .ref x3])) fun v6 =>
  lm_bind (lm_iald sc x0 (x4 + (Int32.ofInt 1))) fun v7 =>
  lm_bind (lm_iald sc x0 (x4 + (Int32.ofInt 2))) fun v8 =>
  lm_bind (lm_iald sc x0 (x4 + (Int32.ofInt 3))) fun v9 =>
  lm_bind (lm_iald sc x0 (x4 + (Int32.ofInt 4))) fun v10 =>
  lm_bind (lm_iald sc x0 (x4 + (Int32.ofInt 5))) fun v11 =>
  lm_bind (lm_sel [(11, 3)] (some (.ref x2))) fun y12 =>
  lm_bind (lm_asI (A y12 [.ref x2, .int v7, .int v8, .int v9, .int v10, .int v11])) fun v13 =>
  lm_bind (lm_sel [(11, 4)] (some (.ref x2))) fun y14 =>
  lm_bind (lm_asI (A y14 [.ref x2])) fun v15 =>
  lm_if .eq v15 v6 (lm_if .ne v6 0 (B (233, [(0, .ref x0), (1, .ref x1), (2, .ref x2), (3, .ref x3), (4, .int x4)], [])) (lm_bind (lm_lald sc x3 (Int32.ofInt 0)) fun v16 =>
  lm_if .eq (lg_cmp v16 (Int32.toInt64 v13)) 0 (B (233, [(0, .ref x0), (1, .ref x1), (2, .ref x2), (3, .ref x3), (4, .int x4)], [])) (lm_when ((Int32.ofInt 0) = 0 ∨ (Int32.ofInt 0) = 1) inferInstance (lm_ret (some (.int (Int32.ofInt 0))))))) (lm_when ((Int32.ofInt 0) = 0 ∨ (Int32.ofInt 0) = 1) inferInstance (lm_ret (some (.int (Int32.ofInt 0)))))
set_option maxRecDepth 100000 in
theorem lm_eL_132 {sc : lm_H} {d : Nat} {x0 : Nat} {x1 : Nat} {x2 : Nat} {x3 : Nat} {x4 : Int32} {σ : lm_S} {r : Except Nat lm_R × lm_S} (h : lm_qL_132 sc (lm_cal sc d) (lm_rn sc d [] (lm_reg lm_law)) x0 x1 x2 x3 x4  σ = some r) : lm_rn sc d [] (lm_reg lm_law) (132, [(0, .ref x0), (1, .ref x1), (2, .ref x2), (3, .ref x3), (4, .int x4)], []) σ = some r := lm_rn_of h
/-- LatticeSuiteLaw.law, from 236 on -/
noncomputable def lm_qL_236 (sc : lm_H) (A : Nat → List Value → lm_M lm_R) (B : lm_F → lm_M lm_R) (x0 : Nat) (x1 : Nat) (x2 : Nat) (x3 : Nat) (x4 : Int32) : lm_M lm_R :=
  lm_bind (lm_iald sc x0 (x4 + (Int32.ofInt 1))) fun v1 =>
  lm_bind (lm_iald sc x0 (x4 + (Int32.ofInt 2))) fun v2 =>
  lm_bind (lm_asI (A 5 [.ref x1, .int v1, .int v2, .ref x3])) fun v3 =>
  lm_bind (lm_iald sc x0 (x4 + (Int32.ofInt 1))) fun v4 =>
  lm_bind (lm_iald sc x0 (x4 + (Int32.ofInt 2))) fun v5 =>
  lm_bind (lm_sel [(11, 6)] (some (.ref x2))) fun y6 =>
  lm_bind (lm_asI (A y6 [.ref x2, .int v4, .int v5])) fun v7 =>
  lm_bind (lm_sel [(11, 4)] (some (.ref x2))) fun y8 =>
  lm_bind (lm_asI (A y8 [.ref x2])) fun v9 =>
  lm_if .eq v9 v3 (lm_if .ne v3 0 (B (301, [(0, .ref x0), (1, .ref x1), (2, .ref x2), (3, .ref x3), (4, .int x4)], [])) (lm_bind (lm_lald sc x3 (Int32.ofInt 0)) fun v10 =>
  lm_if .eq (lg_cmp v10 (Int32.toInt64 v7)) 0 (B (301, [(0, .ref x0), (1, .ref x1), (2, .ref x2), (3, .ref x3), (4, .int x4)], [])) (lm_when ((Int32.ofInt 0) = 0 ∨ (Int32.ofInt 0) = 1) inferInstance (lm_ret (some (.int (Int32.ofInt 0))))))) (lm_when ((Int32.ofInt 0) = 0 ∨ (Int32.ofInt 0) = 1) inferInstance (lm_ret (some (.int (Int32.ofInt 0)))))
set_option maxRecDepth 100000 in
theorem lm_eL_236 {sc : lm_H} {d : Nat} {x0 : Nat} {x1 : Nat} {x2 : Nat} {x3 : Nat} {x4 : Int32} {σ : lm_S} {r : Except Nat lm_R × lm_S} (h : lm_qL_236 sc (lm_cal sc d) (lm_rn sc d [] (lm_reg lm_law)) x0 x1 x2 x3 x4  σ = some r) : lm_rn sc d [] (lm_reg lm_law) (236, [(0, .ref x0), (1, .ref x1), (2, .ref x2), (3, .ref x3), (4, .int x4)], []) σ = some r := lm_rn_of h
/-- LatticeSuiteLaw.law, from 304 on -/
noncomputable def lm_qL_304 (sc : lm_H) (A : Nat → List Value → lm_M lm_R) (B : lm_F → lm_M lm_R) (x0 : Nat) (x1 : Nat) (x2 : Nat) (x3 : Nat) (x4 : Int32) : lm_M lm_R :=
  lm_bind (lm_iald sc x0 (x4 + (Int32.ofInt 1))) fun v1 =>
  lm_bind (lm_iald sc x0 (x4 + (Int32.ofInt 2))) fun v2 =>
  lm_bind (lm_asI (A 7 [.ref x1, .int v1, .int v2, .ref x3])) fun v3 =>
  lm_bind (lm_iald sc x0 (x4 + (Int32.ofInt 1))) fun v4 =>
  lm_bind (lm_iald sc x0 (x4 + (Int32.ofInt 2))) fun v5 =>
  lm_bind (lm_sel [(11, 8)] (some (.ref x2))) fun y6 =>
  lm_bind (lm_asI (A y6 [.ref x2, .int v4, .int v5])) fun v7 =>
  lm_bind (lm_sel [(11, 4)] (some (.ref x2))) fun y8 =>
  lm_bind (lm_asI (A y8 [.ref x2])) fun v9 =>
  lm_if .eq v9 v3 (lm_if .ne v3 0 (B (369, [(0, .ref x0), (1, .ref x1), (2, .ref x2), (3, .ref x3), (4, .int x4)], [])) (lm_bind (lm_lald sc x3 (Int32.ofInt 0)) fun v10 =>
  lm_if .eq (lg_cmp v10 (Int32.toInt64 v7)) 0 (B (369, [(0, .ref x0), (1, .ref x1), (2, .ref x2), (3, .ref x3), (4, .int x4)], [])) (lm_when ((Int32.ofInt 0) = 0 ∨ (Int32.ofInt 0) = 1) inferInstance (lm_ret (some (.int (Int32.ofInt 0))))))) (lm_when ((Int32.ofInt 0) = 0 ∨ (Int32.ofInt 0) = 1) inferInstance (lm_ret (some (.int (Int32.ofInt 0)))))
set_option maxRecDepth 100000 in
theorem lm_eL_304 {sc : lm_H} {d : Nat} {x0 : Nat} {x1 : Nat} {x2 : Nat} {x3 : Nat} {x4 : Int32} {σ : lm_S} {r : Except Nat lm_R × lm_S} (h : lm_qL_304 sc (lm_cal sc d) (lm_rn sc d [] (lm_reg lm_law)) x0 x1 x2 x3 x4  σ = some r) : lm_rn sc d [] (lm_reg lm_law) (304, [(0, .ref x0), (1, .ref x1), (2, .ref x2), (3, .ref x3), (4, .int x4)], []) σ = some r := lm_rn_of h
/-- LatticeSuiteLaw.law, from 372 on -/
noncomputable def lm_qL_372 (sc : lm_H) (A : Nat → List Value → lm_M lm_R) (B : lm_F → lm_M lm_R) (x0 : Nat) (x1 : Nat) (x2 : Nat) (x3 : Nat) (x4 : Int32) : lm_M lm_R :=
  lm_bind (lm_iald sc x0 (x4 + (Int32.ofInt 1))) fun v1 =>
  lm_bind (lm_iald sc x0 (x4 + (Int32.ofInt 2))) fun v2 =>
  lm_bind (lm_asI (A 9 [.ref x1, .int v1, .int v2, .ref x3])) fun v3 =>
  lm_bind (lm_iald sc x0 (x4 + (Int32.ofInt 1))) fun v4 =>
  lm_bind (lm_iald sc x0 (x4 + (Int32.ofInt 2))) fun v5 =>
  lm_bind (lm_sel [(11, 10)] (some (.ref x2))) fun y6 =>
  lm_bind (lm_asI (A y6 [.ref x2, .int v4, .int v5])) fun v7 =>
  lm_bind (lm_sel [(11, 4)] (some (.ref x2))) fun y8 =>
  lm_bind (lm_asI (A y8 [.ref x2])) fun v9 =>
  lm_if .eq v9 v3 (lm_if .ne v3 0 (B (437, [(0, .ref x0), (1, .ref x1), (2, .ref x2), (3, .ref x3), (4, .int x4)], [])) (lm_bind (lm_lald sc x3 (Int32.ofInt 0)) fun v10 =>
  lm_if .eq (lg_cmp v10 (Int32.toInt64 v7)) 0 (B (437, [(0, .ref x0), (1, .ref x1), (2, .ref x2), (3, .ref x3), (4, .int x4)], [])) (lm_when ((Int32.ofInt 0) = 0 ∨ (Int32.ofInt 0) = 1) inferInstance (lm_ret (some (.int (Int32.ofInt 0))))))) (lm_when ((Int32.ofInt 0) = 0 ∨ (Int32.ofInt 0) = 1) inferInstance (lm_ret (some (.int (Int32.ofInt 0)))))
set_option maxRecDepth 100000 in
theorem lm_eL_372 {sc : lm_H} {d : Nat} {x0 : Nat} {x1 : Nat} {x2 : Nat} {x3 : Nat} {x4 : Int32} {σ : lm_S} {r : Except Nat lm_R × lm_S} (h : lm_qL_372 sc (lm_cal sc d) (lm_rn sc d [] (lm_reg lm_law)) x0 x1 x2 x3 x4  σ = some r) : lm_rn sc d [] (lm_reg lm_law) (372, [(0, .ref x0), (1, .ref x1), (2, .ref x2), (3, .ref x3), (4, .int x4)], []) σ = some r := lm_rn_of h
/-- LatticeSuiteLaw.law, from 440 on -/
noncomputable def lm_qL_440 (sc : lm_H) (A : Nat → List Value → lm_M lm_R) (B : lm_F → lm_M lm_R) (x0 : Nat) (x1 : Nat) (x2 : Nat) (x3 : Nat) (x4 : Int32) : lm_M lm_R :=
  lm_bind (lm_iald sc x0 (x4 + (Int32.ofInt 1))) fun v1 =>
  lm_bind (lm_iald sc x0 (x4 + (Int32.ofInt 2))) fun v2 =>
  lm_bind (lm_iald sc x0 (x4 + (Int32.ofInt 3))) fun v3 =>
  lm_bind (lm_asI (A 11 [.ref x1, .int v1, .int v2, .int v3, .ref x3])) fun v4 =>
  lm_bind (lm_iald sc x0 (x4 + (Int32.ofInt 1))) fun v5 =>
  lm_bind (lm_iald sc x0 (x4 + (Int32.ofInt 2))) fun v6 =>
  lm_bind (lm_iald sc x0 (x4 + (Int32.ofInt 3))) fun v7 =>
  lm_bind (lm_sel [(11, 12)] (some (.ref x2))) fun y8 =>
  lm_bind (lm_asI (A y8 [.ref x2, .int v5, .int v6, .int v7])) fun v9 =>
  lm_bind (lm_sel [(11, 4)] (some (.ref x2))) fun y10 =>
  lm_bind (lm_asI (A y10 [.ref x2])) fun v11 =>
  lm_if .eq v11 v4 (lm_if .ne v4 0 (B (517, [(0, .ref x0), (1, .ref x1), (2, .ref x2), (3, .ref x3), (4, .int x4)], [])) (lm_bind (lm_lald sc x3 (Int32.ofInt 0)) fun v12 =>
  lm_if .eq (lg_cmp v12 (Int32.toInt64 v9)) 0 (B (517, [(0, .ref x0), (1, .ref x1), (2, .ref x2), (3, .ref x3), (4, .int x4)], [])) (lm_when ((Int32.ofInt 0) = 0 ∨ (Int32.ofInt 0) = 1) inferInstance (lm_ret (some (.int (Int32.ofInt 0))))))) (lm_when ((Int32.ofInt 0) = 0 ∨ (Int32.ofInt 0) = 1) inferInstance (lm_ret (some (.int (Int32.ofInt 0)))))
set_option maxRecDepth 100000 in
theorem lm_eL_440 {sc : lm_H} {d : Nat} {x0 : Nat} {x1 : Nat} {x2 : Nat} {x3 : Nat} {x4 : Int32} {σ : lm_S} {r : Except Nat lm_R × lm_S} (h : lm_qL_440 sc (lm_cal sc d) (lm_rn sc d [] (lm_reg lm_law)) x0 x1 x2 x3 x4  σ = some r) : lm_rn sc d [] (lm_reg lm_law) (440, [(0, .ref x0), (1, .ref x1), (2, .ref x2), (3, .ref x3), (4, .int x4)], []) σ = some r := lm_rn_of h
/-- LatticeSuiteLaw.law, from 520 on -/
noncomputable def lm_qL_520 (sc : lm_H) (A : Nat → List Value → lm_M lm_R) (B : lm_F → lm_M lm_R) (x0 : Nat) (x1 : Nat) (x2 : Nat) (x3 : Nat) (x4 : Int32) : lm_M lm_R :=
  lm_bind (lm_iald sc x0 (x4 + (Int32.ofInt 1))) fun v1 =>
  lm_bind (lm_asI (A 13 [.ref x1, .int v1, .ref x3])) fun v2 =>
  lm_bind (lm_iald sc x0 (x4 + (Int32.ofInt 1))) fun v3 =>
  lm_bind (lm_sel [(11, 14)] (some (.ref x2))) fun y4 =>
  lm_bind (lm_asI (A y4 [.ref x2, .int v3])) fun v5 =>
  lm_bind (lm_sel [(11, 4)] (some (.ref x2))) fun y6 =>
  lm_bind (lm_asI (A y6 [.ref x2])) fun v7 =>
  lm_if .eq v7 v2 (lm_if .ne v2 0 (B (573, [(0, .ref x0), (1, .ref x1), (2, .ref x2), (3, .ref x3), (4, .int x4)], [])) (lm_bind (lm_lald sc x3 (Int32.ofInt 0)) fun v8 =>
  lm_if .eq (lg_cmp v8 (Int32.toInt64 v5)) 0 (B (573, [(0, .ref x0), (1, .ref x1), (2, .ref x2), (3, .ref x3), (4, .int x4)], [])) (lm_when ((Int32.ofInt 0) = 0 ∨ (Int32.ofInt 0) = 1) inferInstance (lm_ret (some (.int (Int32.ofInt 0))))))) (lm_when ((Int32.ofInt 0) = 0 ∨ (Int32.ofInt 0) = 1) inferInstance (lm_ret (some (.int (Int32.ofInt 0)))))
set_option maxRecDepth 100000 in
theorem lm_eL_520 {sc : lm_H} {d : Nat} {x0 : Nat} {x1 : Nat} {x2 : Nat} {x3 : Nat} {x4 : Int32} {σ : lm_S} {r : Except Nat lm_R × lm_S} (h : lm_qL_520 sc (lm_cal sc d) (lm_rn sc d [] (lm_reg lm_law)) x0 x1 x2 x3 x4  σ = some r) : lm_rn sc d [] (lm_reg lm_law) (520, [(0, .ref x0), (1, .ref x1), (2, .ref x2), (3, .ref x3), (4, .int x4)], []) σ = some r := lm_rn_of h
/-- LatticeSuiteLaw.law, from 576 on -/
noncomputable def lm_qL_576 (sc : lm_H) (A : Nat → List Value → lm_M lm_R) (B : lm_F → lm_M lm_R) (x0 : Nat) (x1 : Nat) (x2 : Nat) (x3 : Nat) (x4 : Int32) : lm_M lm_R :=
  lm_bind (lm_iald sc x0 (x4 + (Int32.ofInt 1))) fun v1 =>
  lm_bind (lm_iald sc x0 (x4 + (Int32.ofInt 2))) fun v2 =>
  lm_bind (lm_asI (A 15 [.ref x1, .int v1, .int v2, .ref x3])) fun v3 =>
  lm_bind (lm_iald sc x0 (x4 + (Int32.ofInt 1))) fun v4 =>
  lm_bind (lm_iald sc x0 (x4 + (Int32.ofInt 2))) fun v5 =>
  lm_bind (lm_sel [(11, 16)] (some (.ref x2))) fun y6 =>
  lm_bind (lm_asL (A y6 [.ref x2, .int v4, .int v5])) fun v7 =>
  lm_bind (lm_sel [(11, 4)] (some (.ref x2))) fun y8 =>
  lm_bind (lm_asI (A y8 [.ref x2])) fun v9 =>
  lm_if .eq v9 v3 (lm_if .ne v3 0 (B (640, [(0, .ref x0), (1, .ref x1), (2, .ref x2), (3, .ref x3), (4, .int x4)], [])) (lm_bind (lm_lald sc x3 (Int32.ofInt 0)) fun v10 =>
  lm_if .eq (lg_cmp v10 v7) 0 (B (640, [(0, .ref x0), (1, .ref x1), (2, .ref x2), (3, .ref x3), (4, .int x4)], [])) (lm_when ((Int32.ofInt 0) = 0 ∨ (Int32.ofInt 0) = 1) inferInstance (lm_ret (some (.int (Int32.ofInt 0))))))) (lm_when ((Int32.ofInt 0) = 0 ∨ (Int32.ofInt 0) = 1) inferInstance (lm_ret (some (.int (Int32.ofInt 0)))))
set_option maxRecDepth 100000 in
theorem lm_eL_576 {sc : lm_H} {d : Nat} {x0 : Nat} {x1 : Nat} {x2 : Nat} {x3 : Nat} {x4 : Int32} {σ : lm_S} {r : Except Nat lm_R × lm_S} (h : lm_qL_576 sc (lm_cal sc d) (lm_rn sc d [] (lm_reg lm_law)) x0 x1 x2 x3 x4  σ = some r) : lm_rn sc d [] (lm_reg lm_law) (576, [(0, .ref x0), (1, .ref x1), (2, .ref x2), (3, .ref x3), (4, .int x4)], []) σ = some r := lm_rn_of h
/-- LatticeSuiteLaw.law, from 643 on -/
noncomputable def lm_qL_643 (sc : lm_H) (A : Nat → List Value → lm_M lm_R) (B : lm_F → lm_M lm_R) (x0 : Nat) (x1 : Nat) (x2 : Nat) (x3 : Nat) (x4 : Int32) : lm_M lm_R :=
  lm_bind (lm_iald sc x0 (x4 + (Int32.ofInt 1))) fun v1 =>
  lm_bind (lm_iald sc x0 (x4 + (Int32.ofInt 2))) fun v2 =>
  lm_bind (lm_asI (A 17 [.ref x1, .int v1, .int v2, .ref x3])) fun v3 =>
  lm_bind (lm_iald sc x0 (x4 + (Int32.ofInt 1))) fun v4 =>
  lm_bind (lm_iald sc x0 (x4 + (Int32.ofInt 2))) fun v5 =>
  lm_bind (lm_sel [(11, 18)] (some (.ref x2))) fun y6 =>
  lm_bind (lm_asI (A y6 [.ref x2, .int v4, .int v5])) fun v7 =>
  lm_bind (lm_sel [(11, 4)] (some (.ref x2))) fun y8 =>
  lm_bind (lm_asI (A y8 [.ref x2])) fun v9 =>
  lm_if .eq v9 v3 (lm_if .ne v3 0 (B (715, [(0, .ref x0), (1, .ref x1), (2, .ref x2), (3, .ref x3), (4, .int x4)], [])) (lm_bind (lm_lald sc x3 (Int32.ofInt 0)) fun v10 =>
  lm_if .eq v7 0 (B (709, [(0, .ref x0), (1, .ref x1), (2, .ref x2), (3, .ref x3), (4, .int x4)], [.long (Int64.ofNat 0), .long v10])) (B (709, [(0, .ref x0), (1, .ref x1), (2, .ref x2), (3, .ref x3), (4, .int x4)], [.long (Int64.ofNat 1), .long v10])))) (lm_when ((Int32.ofInt 0) = 0 ∨ (Int32.ofInt 0) = 1) inferInstance (lm_ret (some (.int (Int32.ofInt 0)))))
set_option maxRecDepth 100000 in
theorem lm_eL_643 {sc : lm_H} {d : Nat} {x0 : Nat} {x1 : Nat} {x2 : Nat} {x3 : Nat} {x4 : Int32} {σ : lm_S} {r : Except Nat lm_R × lm_S} (h : lm_qL_643 sc (lm_cal sc d) (lm_rn sc d [] (lm_reg lm_law)) x0 x1 x2 x3 x4  σ = some r) : lm_rn sc d [] (lm_reg lm_law) (643, [(0, .ref x0), (1, .ref x1), (2, .ref x2), (3, .ref x3), (4, .int x4)], []) σ = some r := lm_rn_of h
/-- LatticeSuiteLaw.law, from 718 on -/
noncomputable def lm_qL_718 (sc : lm_H) (A : Nat → List Value → lm_M lm_R) (B : lm_F → lm_M lm_R) (x0 : Nat) (x1 : Nat) (x2 : Nat) (x3 : Nat) (x4 : Int32) : lm_M lm_R :=
  lm_bind (lm_iald sc x0 (x4 + (Int32.ofInt 1))) fun v1 =>
  lm_bind (lm_iald sc x0 (x4 + (Int32.ofInt 2))) fun v2 =>
  lm_bind (lm_asI (A 19 [.ref x1, .int v1, .int v2, .ref x3])) fun v3 =>
  lm_bind (lm_iald sc x0 (x4 + (Int32.ofInt 1))) fun v4 =>
  lm_bind (lm_iald sc x0 (x4 + (Int32.ofInt 2))) fun v5 =>
  lm_bind (lm_sel [(11, 20)] (some (.ref x2))) fun y6 =>
  lm_bind (lm_asI (A y6 [.ref x2, .int v4, .int v5])) fun v7 =>
  lm_bind (lm_sel [(11, 4)] (some (.ref x2))) fun y8 =>
  lm_bind (lm_asI (A y8 [.ref x2])) fun v9 =>
  lm_if .eq v9 v3 (lm_if .ne v3 0 (B (783, [(0, .ref x0), (1, .ref x1), (2, .ref x2), (3, .ref x3), (4, .int x4)], [])) (lm_bind (lm_lald sc x3 (Int32.ofInt 0)) fun v10 =>
  lm_if .eq (lg_cmp v10 (Int32.toInt64 v7)) 0 (B (783, [(0, .ref x0), (1, .ref x1), (2, .ref x2), (3, .ref x3), (4, .int x4)], [])) (lm_when ((Int32.ofInt 0) = 0 ∨ (Int32.ofInt 0) = 1) inferInstance (lm_ret (some (.int (Int32.ofInt 0))))))) (lm_when ((Int32.ofInt 0) = 0 ∨ (Int32.ofInt 0) = 1) inferInstance (lm_ret (some (.int (Int32.ofInt 0)))))
set_option maxRecDepth 100000 in
theorem lm_eL_718 {sc : lm_H} {d : Nat} {x0 : Nat} {x1 : Nat} {x2 : Nat} {x3 : Nat} {x4 : Int32} {σ : lm_S} {r : Except Nat lm_R × lm_S} (h : lm_qL_718 sc (lm_cal sc d) (lm_rn sc d [] (lm_reg lm_law)) x0 x1 x2 x3 x4  σ = some r) : lm_rn sc d [] (lm_reg lm_law) (718, [(0, .ref x0), (1, .ref x1), (2, .ref x2), (3, .ref x3), (4, .int x4)], []) σ = some r := lm_rn_of h
/-- LatticeSuiteLaw.law, from 786 on -/
noncomputable def lm_qL_786 (sc : lm_H) (A : Nat → List Value → lm_M lm_R) (B : lm_F → lm_M lm_R) (x0 : Nat) (x1 : Nat) (x2 : Nat) (x3 : Nat) (x4 : Int32) : lm_M lm_R :=
  lm_bind (lm_iald sc x0 (x4 + (Int32.ofInt 1))) fun v1 =>
  lm_bind (lm_asI (A 21 [.ref x1, .int v1, .ref x3])) fun v2 =>
  lm_bind (lm_iald sc x0 (x4 + (Int32.ofInt 1))) fun v3 =>
  lm_bind (lm_sel [(11, 22)] (some (.ref x2))) fun y4 =>
  lm_bind (lm_asI (A y4 [.ref x2, .int v3])) fun v5 =>
  lm_bind (lm_sel [(11, 4)] (some (.ref x2))) fun y6 =>
  lm_bind (lm_asI (A y6 [.ref x2])) fun v7 =>
  lm_if .eq v7 v2 (lm_if .ne v2 0 (B (839, [(0, .ref x0), (1, .ref x1), (2, .ref x2), (3, .ref x3), (4, .int x4)], [])) (lm_bind (lm_lald sc x3 (Int32.ofInt 0)) fun v8 =>
  lm_if .eq (lg_cmp v8 (Int32.toInt64 v5)) 0 (B (839, [(0, .ref x0), (1, .ref x1), (2, .ref x2), (3, .ref x3), (4, .int x4)], [])) (lm_when ((Int32.ofInt 0) = 0 ∨ (Int32.ofInt 0) = 1) inferInstance (lm_ret (some (.int (Int32.ofInt 0))))))) (lm_when ((Int32.ofInt 0) = 0 ∨ (Int32.ofInt 0) = 1) inferInstance (lm_ret (some (.int (Int32.ofInt 0)))))
set_option maxRecDepth 100000 in
theorem lm_eL_786 {sc : lm_H} {d : Nat} {x0 : Nat} {x1 : Nat} {x2 : Nat} {x3 : Nat} {x4 : Int32} {σ : lm_S} {r : Except Nat lm_R × lm_S} (h : lm_qL_786 sc (lm_cal sc d) (lm_rn sc d [] (lm_reg lm_law)) x0 x1 x2 x3 x4  σ = some r) : lm_rn sc d [] (lm_reg lm_law) (786, [(0, .ref x0), (1, .ref x1), (2, .ref x2), (3, .ref x3), (4, .int x4)], []) σ = some r := lm_rn_of h
/-- LatticeSuiteLaw.law, from 842 on -/
noncomputable def lm_qL_842 (sc : lm_H) (A : Nat → List Value → lm_M lm_R) (B : lm_F → lm_M lm_R) (x0 : Nat) (x1 : Nat) (x2 : Nat) (x3 : Nat) (x4 : Int32) : lm_M lm_R :=
  lm_bind (lm_iald sc x0 (x4 + (Int32.ofInt 1))) fun v1 =>
  lm_bind (lm_asI (A 23 [.ref x1, .int v1, .ref x3])) fun v2 =>
  lm_bind (lm_iald sc x0 (x4 + (Int32.ofInt 1))) fun v3 =>
  lm_bind (lm_sel [(11, 24)] (some (.ref x2))) fun y4 =>
  lm_bind (lm_asI (A y4 [.ref x2, .int v3])) fun v5 =>
  lm_bind (lm_sel [(11, 4)] (some (.ref x2))) fun y6 =>
  lm_bind (lm_asI (A y6 [.ref x2])) fun v7 =>
  lm_if .eq v7 v2 (lm_if .ne v2 0 (B (895, [(0, .ref x0), (1, .ref x1), (2, .ref x2), (3, .ref x3), (4, .int x4)], [])) (lm_bind (lm_lald sc x3 (Int32.ofInt 0)) fun v8 =>
  lm_if .eq (lg_cmp v8 (Int32.toInt64 v5)) 0 (B (895, [(0, .ref x0), (1, .ref x1), (2, .ref x2), (3, .ref x3), (4, .int x4)], [])) (lm_when ((Int32.ofInt 0) = 0 ∨ (Int32.ofInt 0) = 1) inferInstance (lm_ret (some (.int (Int32.ofInt 0))))))) (lm_when ((Int32.ofInt 0) = 0 ∨ (Int32.ofInt 0) = 1) inferInstance (lm_ret (some (.int (Int32.ofInt 0)))))
set_option maxRecDepth 100000 in
theorem lm_eL_842 {sc : lm_H} {d : Nat} {x0 : Nat} {x1 : Nat} {x2 : Nat} {x3 : Nat} {x4 : Int32} {σ : lm_S} {r : Except Nat lm_R × lm_S} (h : lm_qL_842 sc (lm_cal sc d) (lm_rn sc d [] (lm_reg lm_law)) x0 x1 x2 x3 x4  σ = some r) : lm_rn sc d [] (lm_reg lm_law) (842, [(0, .ref x0), (1, .ref x1), (2, .ref x2), (3, .ref x3), (4, .int x4)], []) σ = some r := lm_rn_of h
/-- LatticeSuiteLaw.law, from 898 on -/
noncomputable def lm_qL_898 (sc : lm_H) (A : Nat → List Value → lm_M lm_R) (B : lm_F → lm_M lm_R) (x0 : Nat) (x1 : Nat) (x2 : Nat) (x3 : Nat) (x4 : Int32) : lm_M lm_R :=
  lm_bind (lm_iald sc x0 (x4 + (Int32.ofInt 1))) fun v1 =>
  lm_bind (lm_asI (A 25 [.ref x1, .int v1, .ref x3])) fun v2 =>
  lm_bind (lm_iald sc x0 (x4 + (Int32.ofInt 1))) fun v3 =>
  lm_bind (lm_sel [(11, 26)] (some (.ref x2))) fun y4 =>
  lm_bind (lm_asI (A y4 [.ref x2, .int v3])) fun v5 =>
  lm_bind (lm_sel [(11, 4)] (some (.ref x2))) fun y6 =>
  lm_bind (lm_asI (A y6 [.ref x2])) fun v7 =>
  lm_if .eq v7 v2 (lm_if .ne v2 0 (B (951, [(0, .ref x0), (1, .ref x1), (2, .ref x2), (3, .ref x3), (4, .int x4)], [])) (lm_bind (lm_lald sc x3 (Int32.ofInt 0)) fun v8 =>
  lm_if .eq (lg_cmp v8 (Int32.toInt64 v5)) 0 (B (951, [(0, .ref x0), (1, .ref x1), (2, .ref x2), (3, .ref x3), (4, .int x4)], [])) (lm_when ((Int32.ofInt 0) = 0 ∨ (Int32.ofInt 0) = 1) inferInstance (lm_ret (some (.int (Int32.ofInt 0))))))) (lm_when ((Int32.ofInt 0) = 0 ∨ (Int32.ofInt 0) = 1) inferInstance (lm_ret (some (.int (Int32.ofInt 0)))))
set_option maxRecDepth 100000 in
theorem lm_eL_898 {sc : lm_H} {d : Nat} {x0 : Nat} {x1 : Nat} {x2 : Nat} {x3 : Nat} {x4 : Int32} {σ : lm_S} {r : Except Nat lm_R × lm_S} (h : lm_qL_898 sc (lm_cal sc d) (lm_rn sc d [] (lm_reg lm_law)) x0 x1 x2 x3 x4  σ = some r) : lm_rn sc d [] (lm_reg lm_law) (898, [(0, .ref x0), (1, .ref x1), (2, .ref x2), (3, .ref x3), (4, .int x4)], []) σ = some r := lm_rn_of h
/-- LatticeSuiteLaw.law, from 954 on -/
noncomputable def lm_qL_954 (sc : lm_H) (A : Nat → List Value → lm_M lm_R) (B : lm_F → lm_M lm_R) (x0 : Nat) (x1 : Nat) (x2 : Nat) (x3 : Nat) (x4 : Int32) : lm_M lm_R :=
  lm_bind (lm_iald sc x0 (x4 + (Int32.ofInt 1))) fun v1 =>
  lm_bind (lm_asI (A 27 [.ref x1, .int v1, .ref x3])) fun v2 =>
  lm_bind (lm_iald sc x0 (x4 + (Int32.ofInt 1))) fun v3 =>
  lm_bind (lm_sel [(11, 28)] (some (.ref x2))) fun y4 =>
  lm_bind (lm_asI (A y4 [.ref x2, .int v3])) fun v5 =>
  lm_bind (lm_sel [(11, 4)] (some (.ref x2))) fun y6 =>
  lm_bind (lm_asI (A y6 [.ref x2])) fun v7 =>
  lm_if .eq v7 v2 (lm_if .ne v2 0 (B (1007, [(0, .ref x0), (1, .ref x1), (2, .ref x2), (3, .ref x3), (4, .int x4)], [])) (lm_bind (lm_lald sc x3 (Int32.ofInt 0)) fun v8 =>
  lm_if .eq (lg_cmp v8 (Int32.toInt64 v5)) 0 (B (1007, [(0, .ref x0), (1, .ref x1), (2, .ref x2), (3, .ref x3), (4, .int x4)], [])) (lm_when ((Int32.ofInt 0) = 0 ∨ (Int32.ofInt 0) = 1) inferInstance (lm_ret (some (.int (Int32.ofInt 0))))))) (lm_when ((Int32.ofInt 0) = 0 ∨ (Int32.ofInt 0) = 1) inferInstance (lm_ret (some (.int (Int32.ofInt 0)))))
set_option maxRecDepth 100000 in
theorem lm_eL_954 {sc : lm_H} {d : Nat} {x0 : Nat} {x1 : Nat} {x2 : Nat} {x3 : Nat} {x4 : Int32} {σ : lm_S} {r : Except Nat lm_R × lm_S} (h : lm_qL_954 sc (lm_cal sc d) (lm_rn sc d [] (lm_reg lm_law)) x0 x1 x2 x3 x4  σ = some r) : lm_rn sc d [] (lm_reg lm_law) (954, [(0, .ref x0), (1, .ref x1), (2, .ref x2), (3, .ref x3), (4, .int x4)], []) σ = some r := lm_rn_of h
/-- LatticeSuiteLaw.law, from 1010 on -/
noncomputable def lm_qL_1010 (sc : lm_H) (A : Nat → List Value → lm_M lm_R) (B : lm_F → lm_M lm_R) (x0 : Nat) (x1 : Nat) (x2 : Nat) (x3 : Nat) (x4 : Int32) : lm_M lm_R :=
  lm_bind (lm_iald sc x0 (x4 + (Int32.ofInt 1))) fun v1 =>
  lm_bind (lm_iald sc x0 (x4 + (Int32.ofInt 2))) fun v2 =>
  lm_bind (lm_asI (A 29 [.ref x1, .int v1, .int v2, .ref x3])) fun v3 =>
  lm_bind (lm_iald sc x0 (x4 + (Int32.ofInt 1))) fun v4 =>
  lm_bind (lm_iald sc x0 (x4 + (Int32.ofInt 2))) fun v5 =>
  lm_bind (lm_sel [(11, 30)] (some (.ref x2))) fun y6 =>
  lm_bind (lm_asI (A y6 [.ref x2, .int v4, .int v5])) fun v7 =>
  lm_bind (lm_sel [(11, 4)] (some (.ref x2))) fun y8 =>
  lm_bind (lm_asI (A y8 [.ref x2])) fun v9 =>
  lm_if .eq v9 v3 (lm_if .ne v3 0 (B (1075, [(0, .ref x0), (1, .ref x1), (2, .ref x2), (3, .ref x3), (4, .int x4)], [])) (lm_bind (lm_lald sc x3 (Int32.ofInt 0)) fun v10 =>
  lm_if .eq (lg_cmp v10 (Int32.toInt64 v7)) 0 (B (1075, [(0, .ref x0), (1, .ref x1), (2, .ref x2), (3, .ref x3), (4, .int x4)], [])) (lm_when ((Int32.ofInt 0) = 0 ∨ (Int32.ofInt 0) = 1) inferInstance (lm_ret (some (.int (Int32.ofInt 0))))))) (lm_when ((Int32.ofInt 0) = 0 ∨ (Int32.ofInt 0) = 1) inferInstance (lm_ret (some (.int (Int32.ofInt 0)))))
set_option maxRecDepth 100000 in
theorem lm_eL_1010 {sc : lm_H} {d : Nat} {x0 : Nat} {x1 : Nat} {x2 : Nat} {x3 : Nat} {x4 : Int32} {σ : lm_S} {r : Except Nat lm_R × lm_S} (h : lm_qL_1010 sc (lm_cal sc d) (lm_rn sc d [] (lm_reg lm_law)) x0 x1 x2 x3 x4  σ = some r) : lm_rn sc d [] (lm_reg lm_law) (1010, [(0, .ref x0), (1, .ref x1), (2, .ref x2), (3, .ref x3), (4, .int x4)], []) σ = some r := lm_rn_of h
/-- LatticeSuiteLaw.law, from 1078 on -/
noncomputable def lm_qL_1078 (sc : lm_H) (A : Nat → List Value → lm_M lm_R) (B : lm_F → lm_M lm_R) (x0 : Nat) (x1 : Nat) (x2 : Nat) (x3 : Nat) (x4 : Int32) : lm_M lm_R :=
  lm_bind (lm_iald sc x0 (x4 + (Int32.ofInt 1))) fun v1 =>
  lm_bind (lm_iald sc x0 (x4 + (Int32.ofInt 2))) fun v2 =>
  lm_bind (lm_asI (A 31 [.ref x1, .int v1, .int v2, .ref x3])) fun v3 =>
  lm_bind (lm_iald sc x0 (x4 + (Int32.ofInt 1))) fun v4 =>
  lm_bind (lm_iald sc x0 (x4 + (Int32.ofInt 2))) fun v5 =>
  lm_bind (lm_sel [(11, 32)] (some (.ref x2))) fun y6 =>
  lm_bind (lm_asI (A y6 [.ref x2, .int v4, .int v5])) fun v7 =>
  lm_bind (lm_sel [(11, 4)] (some (.ref x2))) fun y8 =>
  lm_bind (lm_asI (A y8 [.ref x2])) fun v9 =>
  lm_if .eq v9 v3 (lm_if .ne v3 0 (B (1150, [(0, .ref x0), (1, .ref x1), (2, .ref x2), (3, .ref x3), (4, .int x4)], [])) (lm_bind (lm_lald sc x3 (Int32.ofInt 0)) fun v10 =>
  lm_if .eq v7 0 (B (1144, [(0, .ref x0), (1, .ref x1), (2, .ref x2), (3, .ref x3), (4, .int x4)], [.long (Int64.ofNat 0), .long v10])) (B (1144, [(0, .ref x0), (1, .ref x1), (2, .ref x2), (3, .ref x3), (4, .int x4)], [.long (Int64.ofNat 1), .long v10])))) (lm_when ((Int32.ofInt 0) = 0 ∨ (Int32.ofInt 0) = 1) inferInstance (lm_ret (some (.int (Int32.ofInt 0)))))
set_option maxRecDepth 100000 in
theorem lm_eL_1078 {sc : lm_H} {d : Nat} {x0 : Nat} {x1 : Nat} {x2 : Nat} {x3 : Nat} {x4 : Int32} {σ : lm_S} {r : Except Nat lm_R × lm_S} (h : lm_qL_1078 sc (lm_cal sc d) (lm_rn sc d [] (lm_reg lm_law)) x0 x1 x2 x3 x4  σ = some r) : lm_rn sc d [] (lm_reg lm_law) (1078, [(0, .ref x0), (1, .ref x1), (2, .ref x2), (3, .ref x3), (4, .int x4)], []) σ = some r := lm_rn_of h
/-- LatticeSuiteLaw.law, from 1153 on -/
noncomputable def lm_qL_1153 (sc : lm_H) (A : Nat → List Value → lm_M lm_R) (B : lm_F → lm_M lm_R) (x0 : Nat) (x1 : Nat) (x2 : Nat) (x3 : Nat) (x4 : Int32) : lm_M lm_R :=
  lm_bind (lm_iald sc x0 (x4 + (Int32.ofInt 1))) fun v1 =>
  lm_bind (lm_asI (A 33 [.ref x1, .int v1, .ref x3])) fun v2 =>
  lm_bind (lm_iald sc x0 (x4 + (Int32.ofInt 1))) fun v3 =>
  lm_bind (lm_sel [(11, 34)] (some (.ref x2))) fun y4 =>
  lm_bind (lm_asI (A y4 [.ref x2, .int v3])) fun v5 =>
  lm_bind (lm_sel [(11, 4)] (some (.ref x2))) fun y6 =>
  lm_bind (lm_asI (A y6 [.ref x2])) fun v7 =>
  lm_if .eq v7 v2 (lm_if .ne v2 0 (B (1206, [(0, .ref x0), (1, .ref x1), (2, .ref x2), (3, .ref x3), (4, .int x4)], [])) (lm_bind (lm_lald sc x3 (Int32.ofInt 0)) fun v8 =>
  lm_if .eq (lg_cmp v8 (Int32.toInt64 v5)) 0 (B (1206, [(0, .ref x0), (1, .ref x1), (2, .ref x2), (3, .ref x3), (4, .int x4)], [])) (lm_when ((Int32.ofInt 0) = 0 ∨ (Int32.ofInt 0) = 1) inferInstance (lm_ret (some (.int (Int32.ofInt 0))))))) (lm_when ((Int32.ofInt 0) = 0 ∨ (Int32.ofInt 0) = 1) inferInstance (lm_ret (some (.int (Int32.ofInt 0)))))
set_option maxRecDepth 100000 in
theorem lm_eL_1153 {sc : lm_H} {d : Nat} {x0 : Nat} {x1 : Nat} {x2 : Nat} {x3 : Nat} {x4 : Int32} {σ : lm_S} {r : Except Nat lm_R × lm_S} (h : lm_qL_1153 sc (lm_cal sc d) (lm_rn sc d [] (lm_reg lm_law)) x0 x1 x2 x3 x4  σ = some r) : lm_rn sc d [] (lm_reg lm_law) (1153, [(0, .ref x0), (1, .ref x1), (2, .ref x2), (3, .ref x3), (4, .int x4)], []) σ = some r := lm_rn_of h
/-- LatticeSuiteLaw.law, from 1209 on -/
noncomputable def lm_qL_1209 (sc : lm_H) (A : Nat → List Value → lm_M lm_R) (B : lm_F → lm_M lm_R) (x0 : Nat) (x1 : Nat) (x2 : Nat) (x3 : Nat) (x4 : Int32) : lm_M lm_R :=
  lm_bind (lm_iald sc x0 (x4 + (Int32.ofInt 1))) fun v1 =>
  lm_bind (lm_iald sc x0 (x4 + (Int32.ofInt 2))) fun v2 =>
  lm_bind (lm_asI (A 35 [.ref x1, .int v1, .int v2, .ref x3])) fun v3 =>
  lm_bind (lm_iald sc x0 (x4 + (Int32.ofInt 1))) fun v4 =>
  lm_bind (lm_iald sc x0 (x4 + (Int32.ofInt 2))) fun v5 =>
  lm_bind (lm_sel [(11, 36)] (some (.ref x2))) fun y6 =>
  lm_bind (lm_asI (A y6 [.ref x2, .int v4, .int v5])) fun v7 =>
  lm_bind (lm_sel [(11, 4)] (some (.ref x2))) fun y8 =>
  lm_bind (lm_asI (A y8 [.ref x2])) fun v9 =>
  lm_if .eq v9 v3 (lm_if .ne v3 0 (B (1274, [(0, .ref x0), (1, .ref x1), (2, .ref x2), (3, .ref x3), (4, .int x4)], [])) (lm_bind (lm_lald sc x3 (Int32.ofInt 0)) fun v10 =>
  lm_if .eq (lg_cmp v10 (Int32.toInt64 v7)) 0 (B (1274, [(0, .ref x0), (1, .ref x1), (2, .ref x2), (3, .ref x3), (4, .int x4)], [])) (lm_when ((Int32.ofInt 0) = 0 ∨ (Int32.ofInt 0) = 1) inferInstance (lm_ret (some (.int (Int32.ofInt 0))))))) (lm_when ((Int32.ofInt 0) = 0 ∨ (Int32.ofInt 0) = 1) inferInstance (lm_ret (some (.int (Int32.ofInt 0)))))
set_option maxRecDepth 100000 in
theorem lm_eL_1209 {sc : lm_H} {d : Nat} {x0 : Nat} {x1 : Nat} {x2 : Nat} {x3 : Nat} {x4 : Int32} {σ : lm_S} {r : Except Nat lm_R × lm_S} (h : lm_qL_1209 sc (lm_cal sc d) (lm_rn sc d [] (lm_reg lm_law)) x0 x1 x2 x3 x4  σ = some r) : lm_rn sc d [] (lm_reg lm_law) (1209, [(0, .ref x0), (1, .ref x1), (2, .ref x2), (3, .ref x3), (4, .int x4)], []) σ = some r := lm_rn_of h
/-- LatticeSuiteLaw.law, from 1277 on -/
noncomputable def lm_qL_1277 (sc : lm_H) (A : Nat → List Value → lm_M lm_R) (B : lm_F → lm_M lm_R) (x0 : Nat) (x1 : Nat) (x2 : Nat) (x3 : Nat) (x4 : Int32) : lm_M lm_R :=
  lm_bind (lm_iald sc x0 (x4 + (Int32.ofInt 1))) fun v1 =>
  lm_bind (lm_iald sc x0 (x4 + (Int32.ofInt 2))) fun v2 =>
  lm_bind (lm_asI (A 37 [.ref x1, .int v1, .int v2, .ref x3])) fun v3 =>
  lm_bind (lm_iald sc x0 (x4 + (Int32.ofInt 1))) fun v4 =>
  lm_bind (lm_iald sc x0 (x4 + (Int32.ofInt 2))) fun v5 =>
  lm_bind (lm_sel [(11, 38)] (some (.ref x2))) fun y6 =>
  lm_bind (lm_asI (A y6 [.ref x2, .int v4, .int v5])) fun v7 =>
  lm_bind (lm_sel [(11, 4)] (some (.ref x2))) fun y8 =>
  lm_bind (lm_asI (A y8 [.ref x2])) fun v9 =>
  lm_if .eq v9 v3 (lm_if .ne v3 0 (B (1349, [(0, .ref x0), (1, .ref x1), (2, .ref x2), (3, .ref x3), (4, .int x4)], [])) (lm_bind (lm_lald sc x3 (Int32.ofInt 0)) fun v10 =>
  lm_if .eq v7 0 (B (1343, [(0, .ref x0), (1, .ref x1), (2, .ref x2), (3, .ref x3), (4, .int x4)], [.long (Int64.ofNat 0), .long v10])) (B (1343, [(0, .ref x0), (1, .ref x1), (2, .ref x2), (3, .ref x3), (4, .int x4)], [.long (Int64.ofNat 1), .long v10])))) (lm_when ((Int32.ofInt 0) = 0 ∨ (Int32.ofInt 0) = 1) inferInstance (lm_ret (some (.int (Int32.ofInt 0)))))
set_option maxRecDepth 100000 in
theorem lm_eL_1277 {sc : lm_H} {d : Nat} {x0 : Nat} {x1 : Nat} {x2 : Nat} {x3 : Nat} {x4 : Int32} {σ : lm_S} {r : Except Nat lm_R × lm_S} (h : lm_qL_1277 sc (lm_cal sc d) (lm_rn sc d [] (lm_reg lm_law)) x0 x1 x2 x3 x4  σ = some r) : lm_rn sc d [] (lm_reg lm_law) (1277, [(0, .ref x0), (1, .ref x1), (2, .ref x2), (3, .ref x3), (4, .int x4)], []) σ = some r := lm_rn_of h
/-- LatticeSuiteLaw.law, from 1352 on -/
noncomputable def lm_qL_1352 (sc : lm_H) (A : Nat → List Value → lm_M lm_R) (B : lm_F → lm_M lm_R) (x0 : Nat) (x1 : Nat) (x2 : Nat) (x3 : Nat) (x4 : Int32) : lm_M lm_R :=
  lm_bind (lm_iald sc x0 (x4 + (Int32.ofInt 1))) fun v1 =>
  lm_bind (lm_iald sc x0 (x4 + (Int32.ofInt 2))) fun v2 =>
  lm_bind (lm_iald sc x0 (x4 + (Int32.ofInt 3))) fun v3 =>
  lm_bind (lm_iald sc x0 (x4 + (Int32.ofInt 4))) fun v4 =>
  lm_bind (lm_iald sc x0 (x4 + (Int32.ofInt 5))) fun v5 =>
  lm_bind (lm_asI (A 39 [.ref x1, .int v1, .int v2, .int v3, .int v4, .int v5, .ref x3])) fun v6 =>
  lm_bind (lm_iald sc x0 (x4 + (Int32.ofInt 1))) fun v7 =>
  lm_bind (lm_iald sc x0 (x4 + (Int32.ofInt 2))) fun v8 =>
  lm_bind (lm_iald sc x0 (x4 + (Int32.ofInt 3))) fun v9 =>
  lm_bind (lm_iald sc x0 (x4 + (Int32.ofInt 4))) fun v10 =>
  lm_bind (lm_iald sc x0 (x4 + (Int32.ofInt 5))) fun v11 =>
  lm_bind (lm_sel [(11, 40)] (some (.ref x2))) fun y12 =>
  lm_bind (lm_asI (A y12 [.ref x2, .int v7, .int v8, .int v9, .int v10, .int v11])) fun v13 =>
  lm_bind (lm_sel [(11, 4)] (some (.ref x2))) fun y14 =>
  lm_bind (lm_asI (A y14 [.ref x2])) fun v15 =>
  lm_if .eq v15 v6 (lm_if .ne v6 0 (B (1453, [(0, .ref x0), (1, .ref x1), (2, .ref x2), (3, .ref x3), (4, .int x4)], [])) (lm_bind (lm_lald sc x3 (Int32.ofInt 0)) fun v16 =>
  lm_if .eq (lg_cmp v16 (Int32.toInt64 v13)) 0 (B (1453, [(0, .ref x0), (1, .ref x1), (2, .ref x2), (3, .ref x3), (4, .int x4)], [])) (lm_when ((Int32.ofInt 0) = 0 ∨ (Int32.ofInt 0) = 1) inferInstance (lm_ret (some (.int (Int32.ofInt 0))))))) (lm_when ((Int32.ofInt 0) = 0 ∨ (Int32.ofInt 0) = 1) inferInstance (lm_ret (some (.int (Int32.ofInt 0)))))
set_option maxRecDepth 100000 in
theorem lm_eL_1352 {sc : lm_H} {d : Nat} {x0 : Nat} {x1 : Nat} {x2 : Nat} {x3 : Nat} {x4 : Int32} {σ : lm_S} {r : Except Nat lm_R × lm_S} (h : lm_qL_1352 sc (lm_cal sc d) (lm_rn sc d [] (lm_reg lm_law)) x0 x1 x2 x3 x4  σ = some r) : lm_rn sc d [] (lm_reg lm_law) (1352, [(0, .ref x0), (1, .ref x1), (2, .ref x2), (3, .ref x3), (4, .int x4)], []) σ = some r := lm_rn_of h
/-- LatticeSuiteLaw.law, from 233 on -/
noncomputable def lm_qL_233 (sc : lm_H) (A : Nat → List Value → lm_M lm_R) (B : lm_F → lm_M lm_R) (x0 : Nat) (x1 : Nat) (x2 : Nat) (x3 : Nat) (x4 : Int32) : lm_M lm_R :=
  B (1456, [(0, .ref x0), (1, .ref x1), (2, .ref x2), (3, .ref x3), (4, .int x4)], [])
set_option maxRecDepth 100000 in
theorem lm_eL_233 {sc : lm_H} {d : Nat} {x0 : Nat} {x1 : Nat} {x2 : Nat} {x3 : Nat} {x4 : Int32} {σ : lm_S} {r : Except Nat lm_R × lm_S} (h : lm_qL_233 sc (lm_cal sc d) (lm_rn sc d [] (lm_reg lm_law)) x0 x1 x2 x3 x4  σ = some r) : lm_rn sc d [] (lm_reg lm_law) (233, [(0, .ref x0), (1, .ref x1), (2, .ref x2), (3, .ref x3), (4, .int x4)], []) σ = some r := lm_rn_of h
/-- LatticeSuiteLaw.law, from 301 on -/
noncomputable def lm_qL_301 (sc : lm_H) (A : Nat → List Value → lm_M lm_R) (B : lm_F → lm_M lm_R) (x0 : Nat) (x1 : Nat) (x2 : Nat) (x3 : Nat) (x4 : Int32) : lm_M lm_R :=
  B (1456, [(0, .ref x0), (1, .ref x1), (2, .ref x2), (3, .ref x3), (4, .int x4)], [])
set_option maxRecDepth 100000 in
theorem lm_eL_301 {sc : lm_H} {d : Nat} {x0 : Nat} {x1 : Nat} {x2 : Nat} {x3 : Nat} {x4 : Int32} {σ : lm_S} {r : Except Nat lm_R × lm_S} (h : lm_qL_301 sc (lm_cal sc d) (lm_rn sc d [] (lm_reg lm_law)) x0 x1 x2 x3 x4  σ = some r) : lm_rn sc d [] (lm_reg lm_law) (301, [(0, .ref x0), (1, .ref x1), (2, .ref x2), (3, .ref x3), (4, .int x4)], []) σ = some r := lm_rn_of h
/-- LatticeSuiteLaw.law, from 369 on -/
noncomputable def lm_qL_369 (sc : lm_H) (A : Nat → List Value → lm_M lm_R) (B : lm_F → lm_M lm_R) (x0 : Nat) (x1 : Nat) (x2 : Nat) (x3 : Nat) (x4 : Int32) : lm_M lm_R :=
  B (1456, [(0, .ref x0), (1, .ref x1), (2, .ref x2), (3, .ref x3), (4, .int x4)], [])
set_option maxRecDepth 100000 in
theorem lm_eL_369 {sc : lm_H} {d : Nat} {x0 : Nat} {x1 : Nat} {x2 : Nat} {x3 : Nat} {x4 : Int32} {σ : lm_S} {r : Except Nat lm_R × lm_S} (h : lm_qL_369 sc (lm_cal sc d) (lm_rn sc d [] (lm_reg lm_law)) x0 x1 x2 x3 x4  σ = some r) : lm_rn sc d [] (lm_reg lm_law) (369, [(0, .ref x0), (1, .ref x1), (2, .ref x2), (3, .ref x3), (4, .int x4)], []) σ = some r := lm_rn_of h
/-- LatticeSuiteLaw.law, from 437 on -/
noncomputable def lm_qL_437 (sc : lm_H) (A : Nat → List Value → lm_M lm_R) (B : lm_F → lm_M lm_R) (x0 : Nat) (x1 : Nat) (x2 : Nat) (x3 : Nat) (x4 : Int32) : lm_M lm_R :=
  B (1456, [(0, .ref x0), (1, .ref x1), (2, .ref x2), (3, .ref x3), (4, .int x4)], [])
set_option maxRecDepth 100000 in
theorem lm_eL_437 {sc : lm_H} {d : Nat} {x0 : Nat} {x1 : Nat} {x2 : Nat} {x3 : Nat} {x4 : Int32} {σ : lm_S} {r : Except Nat lm_R × lm_S} (h : lm_qL_437 sc (lm_cal sc d) (lm_rn sc d [] (lm_reg lm_law)) x0 x1 x2 x3 x4  σ = some r) : lm_rn sc d [] (lm_reg lm_law) (437, [(0, .ref x0), (1, .ref x1), (2, .ref x2), (3, .ref x3), (4, .int x4)], []) σ = some r := lm_rn_of h
/-- LatticeSuiteLaw.law, from 517 on -/
noncomputable def lm_qL_517 (sc : lm_H) (A : Nat → List Value → lm_M lm_R) (B : lm_F → lm_M lm_R) (x0 : Nat) (x1 : Nat) (x2 : Nat) (x3 : Nat) (x4 : Int32) : lm_M lm_R :=
  B (1456, [(0, .ref x0), (1, .ref x1), (2, .ref x2), (3, .ref x3), (4, .int x4)], [])
set_option maxRecDepth 100000 in
theorem lm_eL_517 {sc : lm_H} {d : Nat} {x0 : Nat} {x1 : Nat} {x2 : Nat} {x3 : Nat} {x4 : Int32} {σ : lm_S} {r : Except Nat lm_R × lm_S} (h : lm_qL_517 sc (lm_cal sc d) (lm_rn sc d [] (lm_reg lm_law)) x0 x1 x2 x3 x4  σ = some r) : lm_rn sc d [] (lm_reg lm_law) (517, [(0, .ref x0), (1, .ref x1), (2, .ref x2), (3, .ref x3), (4, .int x4)], []) σ = some r := lm_rn_of h
/-- LatticeSuiteLaw.law, from 573 on -/
noncomputable def lm_qL_573 (sc : lm_H) (A : Nat → List Value → lm_M lm_R) (B : lm_F → lm_M lm_R) (x0 : Nat) (x1 : Nat) (x2 : Nat) (x3 : Nat) (x4 : Int32) : lm_M lm_R :=
  B (1456, [(0, .ref x0), (1, .ref x1), (2, .ref x2), (3, .ref x3), (4, .int x4)], [])
set_option maxRecDepth 100000 in
theorem lm_eL_573 {sc : lm_H} {d : Nat} {x0 : Nat} {x1 : Nat} {x2 : Nat} {x3 : Nat} {x4 : Int32} {σ : lm_S} {r : Except Nat lm_R × lm_S} (h : lm_qL_573 sc (lm_cal sc d) (lm_rn sc d [] (lm_reg lm_law)) x0 x1 x2 x3 x4  σ = some r) : lm_rn sc d [] (lm_reg lm_law) (573, [(0, .ref x0), (1, .ref x1), (2, .ref x2), (3, .ref x3), (4, .int x4)], []) σ = some r := lm_rn_of h
/-- LatticeSuiteLaw.law, from 640 on -/
noncomputable def lm_qL_640 (sc : lm_H) (A : Nat → List Value → lm_M lm_R) (B : lm_F → lm_M lm_R) (x0 : Nat) (x1 : Nat) (x2 : Nat) (x3 : Nat) (x4 : Int32) : lm_M lm_R :=
  B (1456, [(0, .ref x0), (1, .ref x1), (2, .ref x2), (3, .ref x3), (4, .int x4)], [])
set_option maxRecDepth 100000 in
theorem lm_eL_640 {sc : lm_H} {d : Nat} {x0 : Nat} {x1 : Nat} {x2 : Nat} {x3 : Nat} {x4 : Int32} {σ : lm_S} {r : Except Nat lm_R × lm_S} (h : lm_qL_640 sc (lm_cal sc d) (lm_rn sc d [] (lm_reg lm_law)) x0 x1 x2 x3 x4  σ = some r) : lm_rn sc d [] (lm_reg lm_law) (640, [(0, .ref x0), (1, .ref x1), (2, .ref x2), (3, .ref x3), (4, .int x4)], []) σ = some r := lm_rn_of h
/-- LatticeSuiteLaw.law, from 715 on -/
noncomputable def lm_qL_715 (sc : lm_H) (A : Nat → List Value → lm_M lm_R) (B : lm_F → lm_M lm_R) (x0 : Nat) (x1 : Nat) (x2 : Nat) (x3 : Nat) (x4 : Int32) : lm_M lm_R :=
  B (1456, [(0, .ref x0), (1, .ref x1), (2, .ref x2), (3, .ref x3), (4, .int x4)], [])
set_option maxRecDepth 100000 in
theorem lm_eL_715 {sc : lm_H} {d : Nat} {x0 : Nat} {x1 : Nat} {x2 : Nat} {x3 : Nat} {x4 : Int32} {σ : lm_S} {r : Except Nat lm_R × lm_S} (h : lm_qL_715 sc (lm_cal sc d) (lm_rn sc d [] (lm_reg lm_law)) x0 x1 x2 x3 x4  σ = some r) : lm_rn sc d [] (lm_reg lm_law) (715, [(0, .ref x0), (1, .ref x1), (2, .ref x2), (3, .ref x3), (4, .int x4)], []) σ = some r := lm_rn_of h
/-- LatticeSuiteLaw.law, from 709 on -/
noncomputable def lm_qL_709 (sc : lm_H) (A : Nat → List Value → lm_M lm_R) (B : lm_F → lm_M lm_R) (x0 : Nat) (x1 : Nat) (x2 : Nat) (x3 : Nat) (x4 : Int32) (s0 : Int64) (s1 : Int64) : lm_M lm_R :=
  lm_if .eq (lg_cmp s1 s0) 0 (B (715, [(0, .ref x0), (1, .ref x1), (2, .ref x2), (3, .ref x3), (4, .int x4)], [])) (lm_when ((Int32.ofInt 0) = 0 ∨ (Int32.ofInt 0) = 1) inferInstance (lm_ret (some (.int (Int32.ofInt 0)))))
set_option maxRecDepth 100000 in
theorem lm_eL_709 {sc : lm_H} {d : Nat} {x0 : Nat} {x1 : Nat} {x2 : Nat} {x3 : Nat} {x4 : Int32} {s0 : Int64} {s1 : Int64} {σ : lm_S} {r : Except Nat lm_R × lm_S} (h : lm_qL_709 sc (lm_cal sc d) (lm_rn sc d [] (lm_reg lm_law)) x0 x1 x2 x3 x4 s0 s1 σ = some r) : lm_rn sc d [] (lm_reg lm_law) (709, [(0, .ref x0), (1, .ref x1), (2, .ref x2), (3, .ref x3), (4, .int x4)], [.long s0, .long s1]) σ = some r := lm_rn_of h
/-- LatticeSuiteLaw.law, from 783 on -/
noncomputable def lm_qL_783 (sc : lm_H) (A : Nat → List Value → lm_M lm_R) (B : lm_F → lm_M lm_R) (x0 : Nat) (x1 : Nat) (x2 : Nat) (x3 : Nat) (x4 : Int32) : lm_M lm_R :=
  B (1456, [(0, .ref x0), (1, .ref x1), (2, .ref x2), (3, .ref x3), (4, .int x4)], [])
set_option maxRecDepth 100000 in
theorem lm_eL_783 {sc : lm_H} {d : Nat} {x0 : Nat} {x1 : Nat} {x2 : Nat} {x3 : Nat} {x4 : Int32} {σ : lm_S} {r : Except Nat lm_R × lm_S} (h : lm_qL_783 sc (lm_cal sc d) (lm_rn sc d [] (lm_reg lm_law)) x0 x1 x2 x3 x4  σ = some r) : lm_rn sc d [] (lm_reg lm_law) (783, [(0, .ref x0), (1, .ref x1), (2, .ref x2), (3, .ref x3), (4, .int x4)], []) σ = some r := lm_rn_of h
/-- LatticeSuiteLaw.law, from 839 on -/
noncomputable def lm_qL_839 (sc : lm_H) (A : Nat → List Value → lm_M lm_R) (B : lm_F → lm_M lm_R) (x0 : Nat) (x1 : Nat) (x2 : Nat) (x3 : Nat) (x4 : Int32) : lm_M lm_R :=
  B (1456, [(0, .ref x0), (1, .ref x1), (2, .ref x2), (3, .ref x3), (4, .int x4)], [])
set_option maxRecDepth 100000 in
theorem lm_eL_839 {sc : lm_H} {d : Nat} {x0 : Nat} {x1 : Nat} {x2 : Nat} {x3 : Nat} {x4 : Int32} {σ : lm_S} {r : Except Nat lm_R × lm_S} (h : lm_qL_839 sc (lm_cal sc d) (lm_rn sc d [] (lm_reg lm_law)) x0 x1 x2 x3 x4  σ = some r) : lm_rn sc d [] (lm_reg lm_law) (839, [(0, .ref x0), (1, .ref x1), (2, .ref x2), (3, .ref x3), (4, .int x4)], []) σ = some r := lm_rn_of h
/-- LatticeSuiteLaw.law, from 895 on -/
noncomputable def lm_qL_895 (sc : lm_H) (A : Nat → List Value → lm_M lm_R) (B : lm_F → lm_M lm_R) (x0 : Nat) (x1 : Nat) (x2 : Nat) (x3 : Nat) (x4 : Int32) : lm_M lm_R :=
  B (1456, [(0, .ref x0), (1, .ref x1), (2, .ref x2), (3, .ref x3), (4, .int x4)], [])
set_option maxRecDepth 100000 in
theorem lm_eL_895 {sc : lm_H} {d : Nat} {x0 : Nat} {x1 : Nat} {x2 : Nat} {x3 : Nat} {x4 : Int32} {σ : lm_S} {r : Except Nat lm_R × lm_S} (h : lm_qL_895 sc (lm_cal sc d) (lm_rn sc d [] (lm_reg lm_law)) x0 x1 x2 x3 x4  σ = some r) : lm_rn sc d [] (lm_reg lm_law) (895, [(0, .ref x0), (1, .ref x1), (2, .ref x2), (3, .ref x3), (4, .int x4)], []) σ = some r := lm_rn_of h
/-- LatticeSuiteLaw.law, from 951 on -/
noncomputable def lm_qL_951 (sc : lm_H) (A : Nat → List Value → lm_M lm_R) (B : lm_F → lm_M lm_R) (x0 : Nat) (x1 : Nat) (x2 : Nat) (x3 : Nat) (x4 : Int32) : lm_M lm_R :=
  B (1456, [(0, .ref x0), (1, .ref x1), (2, .ref x2), (3, .ref x3), (4, .int x4)], [])
set_option maxRecDepth 100000 in
theorem lm_eL_951 {sc : lm_H} {d : Nat} {x0 : Nat} {x1 : Nat} {x2 : Nat} {x3 : Nat} {x4 : Int32} {σ : lm_S} {r : Except Nat lm_R × lm_S} (h : lm_qL_951 sc (lm_cal sc d) (lm_rn sc d [] (lm_reg lm_law)) x0 x1 x2 x3 x4  σ = some r) : lm_rn sc d [] (lm_reg lm_law) (951, [(0, .ref x0), (1, .ref x1), (2, .ref x2), (3, .ref x3), (4, .int x4)], []) σ = some r := lm_rn_of h
/-- LatticeSuiteLaw.law, from 1007 on -/
noncomputable def lm_qL_1007 (sc : lm_H) (A : Nat → List Value → lm_M lm_R) (B : lm_F → lm_M lm_R) (x0 : Nat) (x1 : Nat) (x2 : Nat) (x3 : Nat) (x4 : Int32) : lm_M lm_R :=
  B (1456, [(0, .ref x0), (1, .ref x1), (2, .ref x2), (3, .ref x3), (4, .int x4)], [])
set_option maxRecDepth 100000 in
theorem lm_eL_1007 {sc : lm_H} {d : Nat} {x0 : Nat} {x1 : Nat} {x2 : Nat} {x3 : Nat} {x4 : Int32} {σ : lm_S} {r : Except Nat lm_R × lm_S} (h : lm_qL_1007 sc (lm_cal sc d) (lm_rn sc d [] (lm_reg lm_law)) x0 x1 x2 x3 x4  σ = some r) : lm_rn sc d [] (lm_reg lm_law) (1007, [(0, .ref x0), (1, .ref x1), (2, .ref x2), (3, .ref x3), (4, .int x4)], []) σ = some r := lm_rn_of h
/-- LatticeSuiteLaw.law, from 1075 on -/
noncomputable def lm_qL_1075 (sc : lm_H) (A : Nat → List Value → lm_M lm_R) (B : lm_F → lm_M lm_R) (x0 : Nat) (x1 : Nat) (x2 : Nat) (x3 : Nat) (x4 : Int32) : lm_M lm_R :=
  B (1456, [(0, .ref x0), (1, .ref x1), (2, .ref x2), (3, .ref x3), (4, .int x4)], [])
set_option maxRecDepth 100000 in
theorem lm_eL_1075 {sc : lm_H} {d : Nat} {x0 : Nat} {x1 : Nat} {x2 : Nat} {x3 : Nat} {x4 : Int32} {σ : lm_S} {r : Except Nat lm_R × lm_S} (h : lm_qL_1075 sc (lm_cal sc d) (lm_rn sc d [] (lm_reg lm_law)) x0 x1 x2 x3 x4  σ = some r) : lm_rn sc d [] (lm_reg lm_law) (1075, [(0, .ref x0), (1, .ref x1), (2, .ref x2), (3, .ref x3), (4, .int x4)], []) σ = some r := lm_rn_of h
/-- LatticeSuiteLaw.law, from 1150 on -/
noncomputable def lm_qL_1150 (sc : lm_H) (A : Nat → List Value → lm_M lm_R) (B : lm_F → lm_M lm_R) (x0 : Nat) (x1 : Nat) (x2 : Nat) (x3 : Nat) (x4 : Int32) : lm_M lm_R :=
  B (1456, [(0, .ref x0), (1, .ref x1), (2, .ref x2), (3, .ref x3), (4, .int x4)], [])
set_option maxRecDepth 100000 in
theorem lm_eL_1150 {sc : lm_H} {d : Nat} {x0 : Nat} {x1 : Nat} {x2 : Nat} {x3 : Nat} {x4 : Int32} {σ : lm_S} {r : Except Nat lm_R × lm_S} (h : lm_qL_1150 sc (lm_cal sc d) (lm_rn sc d [] (lm_reg lm_law)) x0 x1 x2 x3 x4  σ = some r) : lm_rn sc d [] (lm_reg lm_law) (1150, [(0, .ref x0), (1, .ref x1), (2, .ref x2), (3, .ref x3), (4, .int x4)], []) σ = some r := lm_rn_of h
/-- LatticeSuiteLaw.law, from 1144 on -/
noncomputable def lm_qL_1144 (sc : lm_H) (A : Nat → List Value → lm_M lm_R) (B : lm_F → lm_M lm_R) (x0 : Nat) (x1 : Nat) (x2 : Nat) (x3 : Nat) (x4 : Int32) (s0 : Int64) (s1 : Int64) : lm_M lm_R :=
  lm_if .eq (lg_cmp s1 s0) 0 (B (1150, [(0, .ref x0), (1, .ref x1), (2, .ref x2), (3, .ref x3), (4, .int x4)], [])) (lm_when ((Int32.ofInt 0) = 0 ∨ (Int32.ofInt 0) = 1) inferInstance (lm_ret (some (.int (Int32.ofInt 0)))))
set_option maxRecDepth 100000 in
theorem lm_eL_1144 {sc : lm_H} {d : Nat} {x0 : Nat} {x1 : Nat} {x2 : Nat} {x3 : Nat} {x4 : Int32} {s0 : Int64} {s1 : Int64} {σ : lm_S} {r : Except Nat lm_R × lm_S} (h : lm_qL_1144 sc (lm_cal sc d) (lm_rn sc d [] (lm_reg lm_law)) x0 x1 x2 x3 x4 s0 s1 σ = some r) : lm_rn sc d [] (lm_reg lm_law) (1144, [(0, .ref x0), (1, .ref x1), (2, .ref x2), (3, .ref x3), (4, .int x4)], [.long s0, .long s1]) σ = some r := lm_rn_of h
/-- LatticeSuiteLaw.law, from 1206 on -/
noncomputable def lm_qL_1206 (sc : lm_H) (A : Nat → List Value → lm_M lm_R) (B : lm_F → lm_M lm_R) (x0 : Nat) (x1 : Nat) (x2 : Nat) (x3 : Nat) (x4 : Int32) : lm_M lm_R :=
  B (1456, [(0, .ref x0), (1, .ref x1), (2, .ref x2), (3, .ref x3), (4, .int x4)], [])
set_option maxRecDepth 100000 in
theorem lm_eL_1206 {sc : lm_H} {d : Nat} {x0 : Nat} {x1 : Nat} {x2 : Nat} {x3 : Nat} {x4 : Int32} {σ : lm_S} {r : Except Nat lm_R × lm_S} (h : lm_qL_1206 sc (lm_cal sc d) (lm_rn sc d [] (lm_reg lm_law)) x0 x1 x2 x3 x4  σ = some r) : lm_rn sc d [] (lm_reg lm_law) (1206, [(0, .ref x0), (1, .ref x1), (2, .ref x2), (3, .ref x3), (4, .int x4)], []) σ = some r := lm_rn_of h
/-- LatticeSuiteLaw.law, from 1274 on -/
noncomputable def lm_qL_1274 (sc : lm_H) (A : Nat → List Value → lm_M lm_R) (B : lm_F → lm_M lm_R) (x0 : Nat) (x1 : Nat) (x2 : Nat) (x3 : Nat) (x4 : Int32) : lm_M lm_R :=
  B (1456, [(0, .ref x0), (1, .ref x1), (2, .ref x2), (3, .ref x3), (4, .int x4)], [])
set_option maxRecDepth 100000 in
theorem lm_eL_1274 {sc : lm_H} {d : Nat} {x0 : Nat} {x1 : Nat} {x2 : Nat} {x3 : Nat} {x4 : Int32} {σ : lm_S} {r : Except Nat lm_R × lm_S} (h : lm_qL_1274 sc (lm_cal sc d) (lm_rn sc d [] (lm_reg lm_law)) x0 x1 x2 x3 x4  σ = some r) : lm_rn sc d [] (lm_reg lm_law) (1274, [(0, .ref x0), (1, .ref x1), (2, .ref x2), (3, .ref x3), (4, .int x4)], []) σ = some r := lm_rn_of h
/-- LatticeSuiteLaw.law, from 1349 on -/
noncomputable def lm_qL_1349 (sc : lm_H) (A : Nat → List Value → lm_M lm_R) (B : lm_F → lm_M lm_R) (x0 : Nat) (x1 : Nat) (x2 : Nat) (x3 : Nat) (x4 : Int32) : lm_M lm_R :=
  B (1456, [(0, .ref x0), (1, .ref x1), (2, .ref x2), (3, .ref x3), (4, .int x4)], [])
set_option maxRecDepth 100000 in
theorem lm_eL_1349 {sc : lm_H} {d : Nat} {x0 : Nat} {x1 : Nat} {x2 : Nat} {x3 : Nat} {x4 : Int32} {σ : lm_S} {r : Except Nat lm_R × lm_S} (h : lm_qL_1349 sc (lm_cal sc d) (lm_rn sc d [] (lm_reg lm_law)) x0 x1 x2 x3 x4  σ = some r) : lm_rn sc d [] (lm_reg lm_law) (1349, [(0, .ref x0), (1, .ref x1), (2, .ref x2), (3, .ref x3), (4, .int x4)], []) σ = some r := lm_rn_of h
/-- LatticeSuiteLaw.law, from 1343 on -/
noncomputable def lm_qL_1343 (sc : lm_H) (A : Nat → List Value → lm_M lm_R) (B : lm_F → lm_M lm_R) (x0 : Nat) (x1 : Nat) (x2 : Nat) (x3 : Nat) (x4 : Int32) (s0 : Int64) (s1 : Int64) : lm_M lm_R :=
  lm_if .eq (lg_cmp s1 s0) 0 (B (1349, [(0, .ref x0), (1, .ref x1), (2, .ref x2), (3, .ref x3), (4, .int x4)], [])) (lm_when ((Int32.ofInt 0) = 0 ∨ (Int32.ofInt 0) = 1) inferInstance (lm_ret (some (.int (Int32.ofInt 0)))))
set_option maxRecDepth 100000 in
theorem lm_eL_1343 {sc : lm_H} {d : Nat} {x0 : Nat} {x1 : Nat} {x2 : Nat} {x3 : Nat} {x4 : Int32} {s0 : Int64} {s1 : Int64} {σ : lm_S} {r : Except Nat lm_R × lm_S} (h : lm_qL_1343 sc (lm_cal sc d) (lm_rn sc d [] (lm_reg lm_law)) x0 x1 x2 x3 x4 s0 s1 σ = some r) : lm_rn sc d [] (lm_reg lm_law) (1343, [(0, .ref x0), (1, .ref x1), (2, .ref x2), (3, .ref x3), (4, .int x4)], [.long s0, .long s1]) σ = some r := lm_rn_of h
/-- LatticeSuiteLaw.law, from 1453 on -/
noncomputable def lm_qL_1453 (sc : lm_H) (A : Nat → List Value → lm_M lm_R) (B : lm_F → lm_M lm_R) (x0 : Nat) (x1 : Nat) (x2 : Nat) (x3 : Nat) (x4 : Int32) : lm_M lm_R :=
  B (1456, [(0, .ref x0), (1, .ref x1), (2, .ref x2), (3, .ref x3), (4, .int x4)], [])
set_option maxRecDepth 100000 in
theorem lm_eL_1453 {sc : lm_H} {d : Nat} {x0 : Nat} {x1 : Nat} {x2 : Nat} {x3 : Nat} {x4 : Int32} {σ : lm_S} {r : Except Nat lm_R × lm_S} (h : lm_qL_1453 sc (lm_cal sc d) (lm_rn sc d [] (lm_reg lm_law)) x0 x1 x2 x3 x4  σ = some r) : lm_rn sc d [] (lm_reg lm_law) (1453, [(0, .ref x0), (1, .ref x1), (2, .ref x2), (3, .ref x3), (4, .int x4)], []) σ = some r := lm_rn_of h
