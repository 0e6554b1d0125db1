/-- LatticeSuiteLaw.slhKeys, from 0 on -/
noncomputable def lm_q33_0 (sc : lm_H) (A : Nat → List Value → lm_M lm_R) (B : lm_F → lm_M lm_R) (x0 : Nat) (x1 : Int32) (x2 : Nat) : lm_M lm_R :=
  lm_bind (lm_sel [(0, 106)] (some (.ref x0))) fun y1 =>
  lm_try (lm_asI (A y1 [.ref x0, .int x1])) [(13, 12), (14, 15)] (fun v2 =>
  lm_bind (lm_last x2 (Int32.ofInt 0) (Int32.toInt64 v2)) fun _ =>
  lm_ret (some (.int (Int32.ofInt 0)))) (fun h q => B (h, [], [.ref q]))
set_option maxRecDepth 100000 in
theorem lm_e33_0 {sc : lm_H} {d : Nat} {x0 : Nat} {x1 : Int32} {x2 : Nat} {σ : lm_S} {r : Except Nat lm_R × lm_S} (h : lm_q33_0 sc (lm_cal sc d) (lm_rn sc d lm_m33.2.2.2.2.1 (lm_reg lm_m33.2.2.2.2.2)) x0 x1 x2  σ = some r) : lm_rn sc d lm_m33.2.2.2.2.1 (lm_reg lm_m33.2.2.2.2.2) (0, [(0, .ref x0), (1, .int x1), (2, .ref x2)], []) σ = some r := lm_rn_of h
/-- LatticeSuiteLaw.slhKeys, from 12 on -/
noncomputable def lm_q33_12 (sc : lm_H) (A : Nat → List Value → lm_M lm_R) (B : lm_F → lm_M lm_R)  (s0 : Nat) : lm_M lm_R :=
  lm_ret (some (.int (Int32.ofInt 1)))
set_option maxRecDepth 100000 in
theorem lm_e33_12 {sc : lm_H} {d : Nat}  {s0 : Nat} {σ : lm_S} {r : Except Nat lm_R × lm_S} (h : lm_q33_12 sc (lm_cal sc d) (lm_rn sc d lm_m33.2.2.2.2.1 (lm_reg lm_m33.2.2.2.2.2))  s0 σ = some r) : lm_rn sc d lm_m33.2.2.2.2.1 (lm_reg lm_m33.2.2.2.2.2) (12, [], [.ref s0]) σ = some r := lm_rn_of h
/-- LatticeSuiteLaw.slhKeys, from 15 on -/
noncomputable def lm_q33_15 (sc : lm_H) (A : Nat → List Value → lm_M lm_R) (B : lm_F → lm_M lm_R)  (s0 : Nat) : lm_M lm_R :=
  lm_ret (some (.int (Int32.ofInt 2)))
set_option maxRecDepth 100000 in
theorem lm_e33_15 {sc : lm_H} {d : Nat}  {s0 : Nat} {σ : lm_S} {r : Except Nat lm_R × lm_S} (h : lm_q33_15 sc (lm_cal sc d) (lm_rn sc d lm_m33.2.2.2.2.1 (lm_reg lm_m33.2.2.2.2.2))  s0 σ = some r) : lm_rn sc d lm_m33.2.2.2.2.1 (lm_reg lm_m33.2.2.2.2.2) (15, [], [.ref s0]) σ = some r := lm_rn_of h
/-- LatticeSuiteModel.slhKeys, from 0 on -/
noncomputable def lm_q34_0 (sc : lm_H) (A : Nat → List Value → lm_M lm_R) (B : lm_F → lm_M lm_R) (x0 : Nat) (x1 : Int32) : lm_M lm_R :=
  lm_bind (lm_asI (A 52 [.int x1, .int (Int32.ofInt 0), .int (Int32.ofInt 11)])) fun v1 =>
  lm_bind (lm_sel [(11, 49)] (some (.ref x0))) fun y2 =>
  lm_bind (lm_asI (A y2 [.ref x0, .int v1, .int (Int32.ofInt 1)])) fun v3 =>
  lm_if .ne v3 0 (lm_bind (lm_sel [(11, 107)] (some (.ref x0))) fun y4 =>
  lm_bind (lm_asV (A y4 [.ref x0, .int x1])) fun _ =>
  lm_bind (lm_gR 4410 x0) fun v5 =>
  lm_bind (lm_iald sc v5 (Int32.ofInt 0)) fun v6 =>
  lm_bind (lm_gI 4668 x0) fun v7 =>
  lm_if .ne v6 ((Int32.ofInt 3) * v7) (B (43, [(0, .ref x0)], [.int (Int32.ofInt 0), .ref x0])) (B (43, [(0, .ref x0)], [.int (Int32.ofInt 1), .ref x0]))) (lm_ret (some (.int (Int32.ofInt 0))))
set_option maxRecDepth 100000 in
theorem lm_e34_0 {sc : lm_H} {d : Nat} {x0 : Nat} {x1 : Int32} {σ : lm_S} {r : Except Nat lm_R × lm_S} (h : lm_q34_0 sc (lm_cal sc d) (lm_rn sc d lm_m34.2.2.2.2.1 (lm_reg lm_m34.2.2.2.2.2)) x0 x1  σ = some r) : lm_rn sc d lm_m34.2.2.2.2.1 (lm_reg lm_m34.2.2.2.2.2) (0, [(0, .ref x0), (1, .int x1)], []) σ = some r := lm_rn_of h
/-- LatticeSuiteModel.slhKeys, from 43 on -/
noncomputable def lm_q34_43 (sc : lm_H) (A : Nat → List Value → lm_M lm_R) (B : lm_F → lm_M lm_R) (x0 : Nat) (s0 : Int32) (s1 : Nat) : lm_M lm_R :=
  lm_bind (lm_sel [(11, 49)] (some (.ref s1))) fun y1 =>
  lm_bind (lm_asI (A y1 [.ref s1, .int s0, .int (Int32.ofInt 2)])) fun v2 =>
  lm_if .ne v2 0 (lm_bind (lm_gR 4406 x0) fun v3 =>
  lm_bind (lm_aaR sc v3 (Int32.ofInt 0)) fun v4 =>
  lm_bind (lm_gR 4658 x0) fun v5 =>
  lm_bind (lm_gI 4668 x0) fun v6 =>
  lm_bind (lm_asV (A 75 [.ref v4, .int (Int32.ofInt 0), .ref v5, .int (Int32.ofInt 0), .int v6])) fun _ =>
  lm_bind (lm_gR 4406 x0) fun v7 =>
  lm_bind (lm_aaR sc v7 (Int32.ofInt 0)) fun v8 =>
  lm_bind (lm_gI 4668 x0) fun v9 =>
  lm_bind (lm_gR 4654 x0) fun v10 =>
  lm_bind (lm_gI 4668 x0) fun v11 =>
  lm_bind (lm_asV (A 75 [.ref v8, .int ((Int32.ofInt 2) * v9), .ref v10, .int (Int32.ofInt 0), .int v11])) fun _ =>
  lm_bind (lm_gI 4676 x0) fun v12 =>
  lm_bind (lm_sel [(11, 108)] (some (.ref x0))) fun y13 =>
  lm_bind (lm_asV (A y13 [.ref x0, .int (v12 - (Int32.ofInt 1)), .long (Int64.ofNat 0)])) fun _ =>
  lm_bind (lm_gI 4680 x0) fun v14 =>
  lm_bind (lm_gR 4666 x0) fun v15 =>
  lm_bind (lm_sel [(11, 109)] (some (.ref x0))) fun y16 =>
  lm_bind (lm_asV (A y16 [.ref x0, .int v14, .int (Int32.ofInt 0), .ref v15, .int (Int32.ofInt 0)])) fun _ =>
  lm_bind (lm_gR 4654 x0) fun v17 =>
  lm_bind (lm_gR 4406 x0) fun v18 =>
  lm_bind (lm_aaR sc v18 (Int32.ofInt 1)) fun v19 =>
  lm_bind (lm_gI 4668 x0) fun v20 =>
  lm_bind (lm_asV (A 75 [.ref v17, .int (Int32.ofInt 0), .ref v19, .int (Int32.ofInt 0), .int v20])) fun _ =>
  lm_bind (lm_gR 4666 x0) fun v21 =>
  lm_bind (lm_gR 4406 x0) fun v22 =>
  lm_bind (lm_aaR sc v22 (Int32.ofInt 1)) fun v23 =>
  lm_bind (lm_gI 4668 x0) fun v24 =>
  lm_bind (lm_gI 4668 x0) fun v25 =>
  lm_bind (lm_asV (A 75 [.ref v21, .int (Int32.ofInt 0), .ref v23, .int v24, .int v25])) fun _ =>
  lm_bind (lm_gR 4410 x0) fun v26 =>
  lm_bind (lm_gI 4668 x0) fun v27 =>
  lm_bind (lm_iast v26 (Int32.ofInt 1) ((Int32.ofInt 2) * v27)) fun _ =>
  lm_bind (lm_gR 4406 x0) fun v28 =>
  lm_bind (lm_aaR sc v28 (Int32.ofInt 0)) fun v29 =>
  lm_bind (lm_gR 4406 x0) fun v30 =>
  lm_bind (lm_aaR sc v30 (Int32.ofInt 2)) fun v31 =>
  lm_bind (lm_gI 4668 x0) fun v32 =>
  lm_bind (lm_asV (A 75 [.ref v29, .int (Int32.ofInt 0), .ref v31, .int (Int32.ofInt 0), .int ((Int32.ofInt 3) * v32)])) fun _ =>
  lm_bind (lm_gR 4666 x0) fun v33 =>
  lm_bind (lm_gR 4406 x0) fun v34 =>
  lm_bind (lm_aaR sc v34 (Int32.ofInt 2)) fun v35 =>
  lm_bind (lm_gI 4668 x0) fun v36 =>
  lm_bind (lm_gI 4668 x0) fun v37 =>
  lm_bind (lm_asV (A 75 [.ref v33, .int (Int32.ofInt 0), .ref v35, .int ((Int32.ofInt 3) * v36), .int v37])) fun _ =>
  lm_bind (lm_gR 4410 x0) fun v38 =>
  lm_bind (lm_gI 4668 x0) fun v39 =>
  lm_bind (lm_iast v38 (Int32.ofInt 2) ((Int32.ofInt 4) * v39)) fun _ =>
  lm_bind (lm_gI 4668 x0) fun v40 =>
  lm_ret (some (.int ((Int32.ofInt 4) * v40)))) (lm_ret (some (.int (Int32.ofInt 0))))
set_option maxRecDepth 100000 in
theorem lm_e34_43 {sc : lm_H} {d : Nat} {x0 : Nat} {s0 : Int32} {s1 : Nat} {σ : lm_S} {r : Except Nat lm_R × lm_S} (h : lm_q34_43 sc (lm_cal sc d) (lm_rn sc d lm_m34.2.2.2.2.1 (lm_reg lm_m34.2.2.2.2.2)) x0 s0 s1 σ = some r) : lm_rn sc d lm_m34.2.2.2.2.1 (lm_reg lm_m34.2.2.2.2.2) (43, [(0, .ref x0)], [.int s0, .ref s1]) σ = some r := lm_rn_of h
/-- LatticeSuiteLaw.slhSign, from 0 on -/
noncomputable def lm_q35_0 (sc : lm_H) (A : Nat → List Value → lm_M lm_R) (B : lm_F → lm_M lm_R) (x0 : Nat) (x1 : Int32) (x2 : Int32) (x3 : Nat) : lm_M lm_R :=
  lm_bind (lm_sel [(0, 110)] (some (.ref x0))) fun y1 =>
  lm_try (lm_asI (A y1 [.ref x0, .int x1, .int x2])) [(13, 13), (14, 17), (16, 21)] (fun v2 =>
  lm_bind (lm_last x3 (Int32.ofInt 0) (Int32.toInt64 v2)) fun _ =>
  lm_ret (some (.int (Int32.ofInt 0)))) (fun h q => B (h, [], [.ref q]))
set_option maxRecDepth 100000 in
theorem lm_e35_0 {sc : lm_H} {d : Nat} {x0 : Nat} {x1 : Int32} {x2 : Int32} {x3 : Nat} {σ : lm_S} {r : Except Nat lm_R × lm_S} (h : lm_q35_0 sc (lm_cal sc d) (lm_rn sc d lm_m35.2.2.2.2.1 (lm_reg lm_m35.2.2.2.2.2)) x0 x1 x2 x3  σ = some r) : lm_rn sc d lm_m35.2.2.2.2.1 (lm_reg lm_m35.2.2.2.2.2) (0, [(0, .ref x0), (1, .int x1), (2, .int x2), (3, .ref x3)], []) σ = some r := lm_rn_of h
/-- LatticeSuiteLaw.slhSign, from 13 on -/
noncomputable def lm_q35_13 (sc : lm_H) (A : Nat → List Value → lm_M lm_R) (B : lm_F → lm_M lm_R)  (s0 : Nat) : lm_M lm_R :=
  lm_ret (some (.int (Int32.ofInt 1)))
set_option maxRecDepth 100000 in
theorem lm_e35_13 {sc : lm_H} {d : Nat}  {s0 : Nat} {σ : lm_S} {r : Except Nat lm_R × lm_S} (h : lm_q35_13 sc (lm_cal sc d) (lm_rn sc d lm_m35.2.2.2.2.1 (lm_reg lm_m35.2.2.2.2.2))  s0 σ = some r) : lm_rn sc d lm_m35.2.2.2.2.1 (lm_reg lm_m35.2.2.2.2.2) (13, [], [.ref s0]) σ = some r := lm_rn_of h
/-- LatticeSuiteLaw.slhSign, from 17 on -/
noncomputable def lm_q35_17 (sc : lm_H) (A : Nat → List Value → lm_M lm_R) (B : lm_F → lm_M lm_R)  (s0 : Nat) : lm_M lm_R :=
  lm_ret (some (.int (Int32.ofInt 2)))
set_option maxRecDepth 100000 in
theorem lm_e35_17 {sc : lm_H} {d : Nat}  {s0 : Nat} {σ : lm_S} {r : Except Nat lm_R × lm_S} (h : lm_q35_17 sc (lm_cal sc d) (lm_rn sc d lm_m35.2.2.2.2.1 (lm_reg lm_m35.2.2.2.2.2))  s0 σ = some r) : lm_rn sc d lm_m35.2.2.2.2.1 (lm_reg lm_m35.2.2.2.2.2) (17, [], [.ref s0]) σ = some r := lm_rn_of h
/-- LatticeSuiteLaw.slhSign, from 21 on -/
noncomputable def lm_q35_21 (sc : lm_H) (A : Nat → List Value → lm_M lm_R) (B : lm_F → lm_M lm_R)  (s0 : Nat) : lm_M lm_R :=
  lm_ret (some (.int (Int32.ofInt 3)))
set_option maxRecDepth 100000 in
theorem lm_e35_21 {sc : lm_H} {d : Nat}  {s0 : Nat} {σ : lm_S} {r : Except Nat lm_R × lm_S} (h : lm_q35_21 sc (lm_cal sc d) (lm_rn sc d lm_m35.2.2.2.2.1 (lm_reg lm_m35.2.2.2.2.2))  s0 σ = some r) : lm_rn sc d lm_m35.2.2.2.2.1 (lm_reg lm_m35.2.2.2.2.2) (21, [], [.ref s0]) σ = some r := lm_rn_of h
/-- LatticeSuiteModel.slhSign, from 0 on -/
noncomputable def lm_q36_0 (sc : lm_H) (A : Nat → List Value → lm_M lm_R) (B : lm_F → lm_M lm_R) (x0 : Nat) (x1 : Int32) (x2 : Int32) : lm_M lm_R :=
  lm_bind (lm_asI (A 52 [.int x1, .int (Int32.ofInt 0), .int (Int32.ofInt 11)])) fun v1 =>
  lm_if .eq v1 0 (B (25, [(0, .ref x0), (1, .int x1), (2, .int x2)], [.ref x0])) (lm_bind (lm_asI (A 52 [.int x2, .int (Int32.ofInt (-1)), .int (Int32.ofInt 12)])) fun v2 =>
  lm_if .eq v2 0 (B (25, [(0, .ref x0), (1, .int x1), (2, .int x2)], [.ref x0])) (B (26, [(0, .ref x0), (1, .int x1), (2, .int x2)], [.int (Int32.ofInt 1), .ref x0])))
set_option maxRecDepth 100000 in
theorem lm_e36_0 {sc : lm_H} {d : Nat} {x0 : Nat} {x1 : Int32} {x2 : Int32} {σ : lm_S} {r : Except Nat lm_R × lm_S} (h : lm_q36_0 sc (lm_cal sc d) (lm_rn sc d lm_m36.2.2.2.2.1 (lm_reg lm_m36.2.2.2.2.2)) x0 x1 x2  σ = some r) : lm_rn sc d lm_m36.2.2.2.2.1 (lm_reg lm_m36.2.2.2.2.2) (0, [(0, .ref x0), (1, .int x1), (2, .int x2)], []) σ = some r := lm_rn_of h
/-- LatticeSuiteModel.slhSign, from 25 on -/
noncomputable def lm_q36_25 (sc : lm_H) (A : Nat → List Value → lm_M lm_R) (B : lm_F → lm_M lm_R) (x0 : Nat) (x1 : Int32) (x2 : Int32) (s0 : Nat) : lm_M lm_R :=
  B (26, [(0, .ref x0), (1, .int x1), (2, .int x2)], [.int (Int32.ofInt 0), .ref s0])
set_option maxRecDepth 100000 in
theorem lm_e36_25 {sc : lm_H} {d : Nat} {x0 : Nat} {x1 : Int32} {x2 : Int32} {s0 : Nat} {σ : lm_S} {r : Except Nat lm_R × lm_S} (h : lm_q36_25 sc (lm_cal sc d) (lm_rn sc d lm_m36.2.2.2.2.1 (lm_reg lm_m36.2.2.2.2.2)) x0 x1 x2 s0 σ = some r) : lm_rn sc d lm_m36.2.2.2.2.1 (lm_reg lm_m36.2.2.2.2.2) (25, [(0, .ref x0), (1, .int x1), (2, .int x2)], [.ref s0]) σ = some r := lm_rn_of h
/-- LatticeSuiteModel.slhSign, from 26 on -/
noncomputable def lm_q36_26 (sc : lm_H) (A : Nat → List Value → lm_M lm_R) (B : lm_F → lm_M lm_R) (x0 : Nat) (x1 : Int32) (x2 : Int32) (s0 : Int32) (s1 : Nat) : lm_M lm_R :=
  lm_bind (lm_sel [(11, 49)] (some (.ref s1))) fun y1 =>
  lm_bind (lm_asI (A y1 [.ref s1, .int s0, .int (Int32.ofInt 1)])) fun v2 =>
  lm_if .ne v2 0 (lm_bind (lm_sel [(11, 107)] (some (.ref x0))) fun y3 =>
  lm_bind (lm_asV (A y3 [.ref x0, .int x1])) fun _ =>
  lm_bind (lm_sel [(11, 96)] (some (.ref x0))) fun y4 =>
  lm_bind (lm_asI (A y4 [.ref x0, .int x2])) fun v5 =>
  lm_if .eq v5 0 (B (75, [(0, .ref x0), (2, .int x2)], [.ref x0])) (lm_bind (lm_gR 4410 x0) fun v6 =>
  lm_bind (lm_iald sc v6 (Int32.ofInt 0)) fun v7 =>
  lm_bind (lm_gI 4668 x0) fun v8 =>
  lm_if .eq v7 v8 (B (71, [(0, .ref x0), (2, .int x2)], [.ref x0])) (lm_bind (lm_gR 4410 x0) fun v9 =>
  lm_bind (lm_iald sc v9 (Int32.ofInt 0)) fun v10 =>
  lm_if .ne v10 0 (B (75, [(0, .ref x0), (2, .int x2)], [.ref x0])) (B (71, [(0, .ref x0), (2, .int x2)], [.ref x0]))))) (lm_ret (some (.int (Int32.ofInt 0))))
set_option maxRecDepth 100000 in
theorem lm_e36_26 {sc : lm_H} {d : Nat} {x0 : Nat} {x1 : Int32} {x2 : Int32} {s0 : Int32} {s1 : Nat} {σ : lm_S} {r : Except Nat lm_R × lm_S} (h : lm_q36_26 sc (lm_cal sc d) (lm_rn sc d lm_m36.2.2.2.2.1 (lm_reg lm_m36.2.2.2.2.2)) x0 x1 x2 s0 s1 σ = some r) : lm_rn sc d lm_m36.2.2.2.2.1 (lm_reg lm_m36.2.2.2.2.2) (26, [(0, .ref x0), (1, .int x1), (2, .int x2)], [.int s0, .ref s1]) σ = some r := lm_rn_of h
/-- LatticeSuiteModel.slhSign, from 75 on -/
noncomputable def lm_q36_75 (sc : lm_H) (A : Nat → List Value → lm_M lm_R) (B : lm_F → lm_M lm_R) (x0 : Nat) (x2 : Int32) (s0 : Nat) : lm_M lm_R :=
  B (76, [(0, .ref x0), (2, .int x2)], [.int (Int32.ofInt 0), .ref s0])
set_option maxRecDepth 100000 in
theorem lm_e36_75 {sc : lm_H} {d : Nat} {x0 : Nat} {x2 : Int32} {s0 : Nat} {σ : lm_S} {r : Except Nat lm_R × lm_S} (h : lm_q36_75 sc (lm_cal sc d) (lm_rn sc d lm_m36.2.2.2.2.1 (lm_reg lm_m36.2.2.2.2.2)) x0 x2 s0 σ = some r) : lm_rn sc d lm_m36.2.2.2.2.1 (lm_reg lm_m36.2.2.2.2.2) (75, [(0, .ref x0), (2, .int x2)], [.ref s0]) σ = some r := lm_rn_of h
/-- LatticeSuiteModel.slhSign, from 71 on -/
noncomputable def lm_q36_71 (sc : lm_H) (A : Nat → List Value → lm_M lm_R) (B : lm_F → lm_M lm_R) (x0 : Nat) (x2 : Int32) (s0 : Nat) : lm_M lm_R :=
  B (76, [(0, .ref x0), (2, .int x2)], [.int (Int32.ofInt 1), .ref s0])
set_option maxRecDepth 100000 in
theorem lm_e36_71 {sc : lm_H} {d : Nat} {x0 : Nat} {x2 : Int32} {s0 : Nat} {σ : lm_S} {r : Except Nat lm_R × lm_S} (h : lm_q36_71 sc (lm_cal sc d) (lm_rn sc d lm_m36.2.2.2.2.1 (lm_reg lm_m36.2.2.2.2.2)) x0 x2 s0 σ = some r) : lm_rn sc d lm_m36.2.2.2.2.1 (lm_reg lm_m36.2.2.2.2.2) (71, [(0, .ref x0), (2, .int x2)], [.ref s0]) σ = some r := lm_rn_of h
/-- LatticeSuiteModel.slhSign, from 76 on -/
noncomputable def lm_q36_76 (sc : lm_H) (A : Nat → List Value → lm_M lm_R) (B : lm_F → lm_M lm_R) (x0 : Nat) (x2 : Int32) (s0 : Int32) (s1 : Nat) : lm_M lm_R :=
  lm_bind (lm_sel [(11, 49)] (some (.ref s1))) fun y1 =>
  lm_bind (lm_asI (A y1 [.ref s1, .int s0, .int (Int32.ofInt 2)])) fun v2 =>
  lm_if .eq v2 0 (lm_ret (some (.int (Int32.ofInt 0)))) (lm_bind (lm_gR 4410 x0) fun v3 =>
  lm_bind (lm_iald sc v3 (Int32.ofInt 2)) fun v4 =>
  lm_bind (lm_gI 4668 x0) fun v5 =>
  lm_if .ne v4 ((Int32.ofInt 4) * v5) (B (104, [(0, .ref x0), (2, .int x2)], [.int (Int32.ofInt 0), .ref x0])) (B (104, [(0, .ref x0), (2, .int x2)], [.int (Int32.ofInt 1), .ref x0])))
set_option maxRecDepth 100000 in
theorem lm_e36_76 {sc : lm_H} {d : Nat} {x0 : Nat} {x2 : Int32} {s0 : Int32} {s1 : Nat} {σ : lm_S} {r : Except Nat lm_R × lm_S} (h : lm_q36_76 sc (lm_cal sc d) (lm_rn sc d lm_m36.2.2.2.2.1 (lm_reg lm_m36.2.2.2.2.2)) x0 x2 s0 s1 σ = some r) : lm_rn sc d lm_m36.2.2.2.2.1 (lm_reg lm_m36.2.2.2.2.2) (76, [(0, .ref x0), (2, .int x2)], [.int s0, .ref s1]) σ = some r := lm_rn_of h
/-- LatticeSuiteModel.slhSign, from 104 on -/
noncomputable def lm_q36_104 (sc : lm_H) (A : Nat → List Value → lm_M lm_R) (B : lm_F → lm_M lm_R) (x0 : Nat) (x2 : Int32) (s0 : Int32) (s1 : Nat) : lm_M lm_R :=
  lm_bind (lm_sel [(11, 49)] (some (.ref s1))) fun y1 =>
  lm_bind (lm_asI (A y1 [.ref s1, .int s0, .int (Int32.ofInt 3)])) fun v2 =>
  lm_if .ne v2 0 (lm_bind (lm_gR 4406 x0) fun v3 =>
  lm_bind (lm_aaR sc v3 (Int32.ofInt 2)) fun v4 =>
  lm_bind (lm_gR 4658 x0) fun v5 =>
  lm_bind (lm_gI 4668 x0) fun v6 =>
  lm_bind (lm_asV (A 75 [.ref v4, .int (Int32.ofInt 0), .ref v5, .int (Int32.ofInt 0), .int v6])) fun _ =>
  lm_bind (lm_gR 4406 x0) fun v7 =>
  lm_bind (lm_aaR sc v7 (Int32.ofInt 2)) fun v8 =>
  lm_bind (lm_gI 4668 x0) fun v9 =>
  lm_bind (lm_gR 4654 x0) fun v10 =>
  lm_bind (lm_gI 4668 x0) fun v11 =>
  lm_bind (lm_asV (A 75 [.ref v8, .int ((Int32.ofInt 2) * v9), .ref v10, .int (Int32.ofInt 0), .int v11])) fun _ =>
  lm_bind (lm_gR 4406 x0) fun v12 =>
  lm_bind (lm_aaR sc v12 (Int32.ofInt 2)) fun v13 =>
  lm_bind (lm_gI 4668 x0) fun v14 =>
  lm_bind (lm_gR 4666 x0) fun v15 =>
  lm_bind (lm_gI 4668 x0) fun v16 =>
  lm_bind (lm_asV (A 75 [.ref v13, .int ((Int32.ofInt 3) * v14), .ref v15, .int (Int32.ofInt 0), .int v16])) fun _ =>
  lm_bind (lm_gR 4410 x0) fun v17 =>
  lm_bind (lm_iald sc v17 (Int32.ofInt 0)) fun v18 =>
  lm_if .ne v18 0 (lm_bind (lm_gR 4406 x0) fun v19 =>
  lm_bind (lm_aaR sc v19 (Int32.ofInt 0)) fun v20 =>
  B (202, [(0, .ref x0), (2, .int x2)], [.ref v20])) (lm_bind (lm_gR 4654 x0) fun v21 =>
  B (202, [(0, .ref x0), (2, .int x2)], [.ref v21]))) (lm_ret (some (.int (Int32.ofInt 0))))
set_option maxRecDepth 100000 in
theorem lm_e36_104 {sc : lm_H} {d : Nat} {x0 : Nat} {x2 : Int32} {s0 : Int32} {s1 : Nat} {σ : lm_S} {r : Except Nat lm_R × lm_S} (h : lm_q36_104 sc (lm_cal sc d) (lm_rn sc d lm_m36.2.2.2.2.1 (lm_reg lm_m36.2.2.2.2.2)) x0 x2 s0 s1 σ = some r) : lm_rn sc d lm_m36.2.2.2.2.1 (lm_reg lm_m36.2.2.2.2.2) (104, [(0, .ref x0), (2, .int x2)], [.int s0, .ref s1]) σ = some r := lm_rn_of h
/-- LatticeSuiteModel.slhSign, from 202 on -/
noncomputable def lm_q36_202 (sc : lm_H) (A : Nat → List Value → lm_M lm_R) (B : lm_F → lm_M lm_R) (x0 : Nat) (x2 : Int32) (s0 : Nat) : lm_M lm_R :=
  lm_bind (lm_gR 4662 x0) fun v1 =>
  lm_bind (lm_gI 4668 x0) fun v2 =>
  lm_bind (lm_asV (A 75 [.ref s0, .int (Int32.ofInt 0), .ref v1, .int (Int32.ofInt 0), .int v2])) fun _ =>
  lm_bind (lm_sel [(11, 111)] (some (.ref x0))) fun y3 =>
  lm_bind (lm_asV (A y3 [.ref x0, .int x2])) fun _ =>
  lm_bind (lm_gI 4699 x0) fun v4 =>
  lm_if .eq v4 0 (lm_bind (lm_sel [(11, 112)] (some (.ref x0))) fun y5 =>
  lm_bind (lm_asI (A y5 [.ref x0])) fun v6 =>
  lm_bind (lm_gR 4406 x0) fun v7 =>
  lm_bind (lm_aaR sc v7 (Int32.ofInt 2)) fun v8 =>
  lm_bind (lm_gI 4668 x0) fun v9 =>
  lm_bind (lm_gI 4668 x0) fun v10 =>
  lm_bind (lm_sel [(11, 64)] (some (.ref x0))) fun y11 =>
  lm_bind (lm_asV (A y11 [.ref x0, .int v6, .ref v8, .int v9, .int v10])) fun _ =>
  B (276, [(0, .ref x0), (2, .int x2)], [])) (lm_bind (lm_sel [(11, 61)] (some (.ref x0))) fun y12 =>
  lm_bind (lm_asV (A y12 [.ref x0, .int (Int32.ofInt 12)])) fun _ =>
  lm_bind (lm_gR 4406 x0) fun v13 =>
  lm_bind (lm_aaR sc v13 (Int32.ofInt 2)) fun v14 =>
  lm_bind (lm_gI 4668 x0) fun v15 =>
  lm_bind (lm_gI 4668 x0) fun v16 =>
  lm_bind (lm_sel [(11, 62)] (some (.ref x0))) fun y17 =>
  lm_bind (lm_asV (A y17 [.ref x0, .ref v14, .int v15, .int v16])) fun _ =>
  B (276, [(0, .ref x0), (2, .int x2)], []))
set_option maxRecDepth 100000 in
theorem lm_e36_202 {sc : lm_H} {d : Nat} {x0 : Nat} {x2 : Int32} {s0 : Nat} {σ : lm_S} {r : Except Nat lm_R × lm_S} (h : lm_q36_202 sc (lm_cal sc d) (lm_rn sc d lm_m36.2.2.2.2.1 (lm_reg lm_m36.2.2.2.2.2)) x0 x2 s0 σ = some r) : lm_rn sc d lm_m36.2.2.2.2.1 (lm_reg lm_m36.2.2.2.2.2) (202, [(0, .ref x0), (2, .int x2)], [.ref s0]) σ = some r := lm_rn_of h
/-- LatticeSuiteModel.slhSign, from 276 on -/
noncomputable def lm_q36_276 (sc : lm_H) (A : Nat → List Value → lm_M lm_R) (B : lm_F → lm_M lm_R) (x0 : Nat) (x2 : Int32) : lm_M lm_R :=
  lm_bind (lm_gR 4662 x0) fun v1 =>
  lm_bind (lm_gI 4668 x0) fun v2 =>
  lm_bind (lm_sel [(11, 62)] (some (.ref x0))) fun y3 =>
  lm_bind (lm_asV (A y3 [.ref x0, .ref v1, .int (Int32.ofInt 0), .int v2])) fun _ =>
  lm_bind (lm_sel [(11, 113)] (some (.ref x0))) fun y4 =>
  lm_bind (lm_asV (A y4 [.ref x0, .int x2])) fun _ =>
  lm_bind (lm_gI 4699 x0) fun v5 =>
  lm_if .eq v5 0 (lm_bind (lm_sel [(11, 112)] (some (.ref x0))) fun y6 =>
  lm_bind (lm_asI (A y6 [.ref x0])) fun v7 =>
  lm_bind (lm_gR 4522 x0) fun v8 =>
  lm_bind (lm_gI 4668 x0) fun v9 =>
  lm_bind (lm_sel [(11, 65)] (some (.ref x0))) fun y10 =>
  lm_bind (lm_asV (A y10 [.ref x0, .int v7, .ref v8, .int (Int32.ofInt 0), .int v9])) fun _ =>
  B (334, [(0, .ref x0), (2, .int x2)], [])) (lm_bind (lm_gR 4522 x0) fun v11 =>
  lm_bind (lm_gI 4668 x0) fun v12 =>
  lm_bind (lm_sel [(11, 63)] (some (.ref x0))) fun y13 =>
  lm_bind (lm_asV (A y13 [.ref x0, .ref v11, .int (Int32.ofInt 0), .int v12])) fun _ =>
  B (334, [(0, .ref x0), (2, .int x2)], []))
set_option maxRecDepth 100000 in
theorem lm_e36_276 {sc : lm_H} {d : Nat} {x0 : Nat} {x2 : Int32} {σ : lm_S} {r : Except Nat lm_R × lm_S} (h : lm_q36_276 sc (lm_cal sc d) (lm_rn sc d lm_m36.2.2.2.2.1 (lm_reg lm_m36.2.2.2.2.2)) x0 x2  σ = some r) : lm_rn sc d lm_m36.2.2.2.2.1 (lm_reg lm_m36.2.2.2.2.2) (276, [(0, .ref x0), (2, .int x2)], []) σ = some r := lm_rn_of h
/-- LatticeSuiteModel.slhSign, from 334 on -/
noncomputable def lm_q36_334 (sc : lm_H) (A : Nat → List Value → lm_M lm_R) (B : lm_F → lm_M lm_R) (x0 : Nat) (x2 : Int32) : lm_M lm_R :=
  lm_bind (lm_gR 4522 x0) fun v1 =>
  lm_bind (lm_sel [(11, 114)] (some (.ref x0))) fun y2 =>
  lm_bind (lm_asV (A y2 [.ref x0, .ref v1, .int (Int32.ofInt 0), .int x2])) fun _ =>
  lm_bind (lm_sel [(11, 115)] (some (.ref x0))) fun y3 =>
  lm_bind (lm_asL (A y3 [.ref x0])) fun v4 =>
  lm_bind (lm_sel [(11, 116)] (some (.ref x0))) fun y5 =>
  lm_bind (lm_asI (A y5 [.ref x0])) fun v6 =>
  lm_bind (lm_sel [(11, 108)] (some (.ref x0))) fun y7 =>
  lm_bind (lm_asV (A y7 [.ref x0, .int (Int32.ofInt 0), .long v4])) fun _ =>
  lm_bind (lm_gR 4522 x0) fun v8 =>
  lm_bind (lm_gI 4668 x0) fun v9 =>
  lm_bind (lm_sel [(11, 117)] (some (.ref x0))) fun y10 =>
  lm_bind (lm_asV (A y10 [.ref x0, .int v6, .ref v8, .int v9])) fun _ =>
  lm_bind (lm_gR 4522 x0) fun v11 =>
  lm_bind (lm_gI 4668 x0) fun v12 =>
  lm_bind (lm_sel [(11, 118)] (some (.ref x0))) fun y13 =>
  lm_bind (lm_asV (A y13 [.ref x0, .int v6, .ref v11, .int v12])) fun _ =>
  lm_bind (lm_gI 4668 x0) fun v14 =>
  lm_bind (lm_gI 4688 x0) fun v15 =>
  lm_bind (lm_gI 4684 x0) fun v16 =>
  lm_bind (lm_gI 4668 x0) fun v17 =>
  B (415, [(0, .ref x0), (3, .long v4), (5, .int v6), (6, .int (v14 + ((v15 * ((Int32.ofInt 1) + v16)) * v17))), (7, .int (Int32.ofInt 0))], [])
set_option maxRecDepth 100000 in
theorem lm_e36_334 {sc : lm_H} {d : Nat} {x0 : Nat} {x2 : Int32} {σ : lm_S} {r : Except Nat lm_R × lm_S} (h : lm_q36_334 sc (lm_cal sc d) (lm_rn sc d lm_m36.2.2.2.2.1 (lm_reg lm_m36.2.2.2.2.2)) x0 x2  σ = some r) : lm_rn sc d lm_m36.2.2.2.2.1 (lm_reg lm_m36.2.2.2.2.2) (334, [(0, .ref x0), (2, .int x2)], []) σ = some r := lm_rn_of h
/-- LatticeSuiteModel.slhSign, from 415 on -/
noncomputable def lm_q36_415 (sc : lm_H) (A : Nat → List Value → lm_M lm_R) (B : lm_F → lm_M lm_R) (x0 : Nat) (x3 : Int64) (x5 : Int32) (x6 : Int32) (x7 : Int32) : lm_M lm_R :=
  lm_bind (lm_gI 4676 x0) fun v1 =>
  lm_if .ge x7 v1 (lm_bind (lm_gR 4522 x0) fun v2 =>
  lm_bind (lm_gR 4406 x0) fun v3 =>
  lm_bind (lm_aaR sc v3 (Int32.ofInt 5)) fun v4 =>
  lm_bind (lm_asV (A 75 [.ref v2, .int (Int32.ofInt 0), .ref v4, .int (Int32.ofInt 0), .int x6])) fun _ =>
  lm_bind (lm_gR 4410 x0) fun v5 =>
  lm_bind (lm_iast v5 (Int32.ofInt 5) x6) fun _ =>
  lm_ret (some (.int x6))) (lm_bind (lm_sel [(11, 108)] (some (.ref x0))) fun y6 =>
  lm_bind (lm_asV (A y6 [.ref x0, .int x7, .long x3])) fun _ =>
  lm_bind (lm_gR 4638 x0) fun v7 =>
  lm_bind (lm_gR 4662 x0) fun v8 =>
  lm_bind (lm_gI 4668 x0) fun v9 =>
  lm_bind (lm_asV (A 75 [.ref v7, .int (Int32.ofInt 0), .ref v8, .int (Int32.ofInt 0), .int v9])) fun _ =>
  lm_bind (lm_gR 4662 x0) fun v10 =>
  lm_bind (lm_gR 4522 x0) fun v11 =>
  lm_bind (lm_sel [(11, 119)] (some (.ref x0))) fun y12 =>
  lm_bind (lm_asV (A y12 [.ref x0, .ref v10, .int (Int32.ofInt 0), .int x5, .ref v11, .int x6])) fun _ =>
  lm_bind (lm_gR 4522 x0) fun v13 =>
  lm_bind (lm_gR 4662 x0) fun v14 =>
  lm_bind (lm_sel [(11, 120)] (some (.ref x0))) fun y15 =>
  lm_bind (lm_asV (A y15 [.ref x0, .int x5, .ref v13, .int x6, .ref v14, .int (Int32.ofInt 0)])) fun _ =>
  lm_bind (lm_gI 4692 x0) fun v16 =>
  lm_bind (lm_gI 4680 x0) fun v17 =>
  lm_bind (lm_gI 4668 x0) fun v18 =>
  lm_bind (lm_gI 4680 x0) fun v19 =>
  lm_bind (lm_gI 4680 x0) fun v20 =>
  B (415, [(0, .ref x0), (3, .long (lm_uL x3 v20)), (5, .int (Int64.toInt32 (x3 &&& (((Int64.ofNat 1) <<< ((Int32.toInt64 v19) &&& 63)) - (Int64.ofNat 1))))), (6, .int (x6 + ((v16 + v17) * v18))), (7, .int (x7 + Int32.ofInt 1))], []))
set_option maxRecDepth 100000 in
theorem lm_e36_415 {sc : lm_H} {d : Nat} {x0 : Nat} {x3 : Int64} {x5 : Int32} {x6 : Int32} {x7 : Int32} {σ : lm_S} {r : Except Nat lm_R × lm_S} (h : lm_q36_415 sc (lm_cal sc d) (lm_rn sc d lm_m36.2.2.2.2.1 (lm_reg lm_m36.2.2.2.2.2)) x0 x3 x5 x6 x7  σ = some r) : lm_rn sc d lm_m36.2.2.2.2.1 (lm_reg lm_m36.2.2.2.2.2) (415, [(0, .ref x0), (3, .long x3), (5, .int x5), (6, .int x6), (7, .int x7)], []) σ = some r := lm_rn_of h
/-- LatticeSuiteLaw.slhVerify, from 0 on -/
noncomputable def lm_q37_0 (sc : lm_H) (A : Nat → List Value → lm_M lm_R) (B : lm_F → lm_M lm_R) (x0 : Nat) (x1 : Int32) (x2 : Int32) (x3 : Nat) : lm_M lm_R :=
  lm_bind (lm_sel [(0, 121)] (some (.ref x0))) fun y1 =>
  lm_try (lm_asI (A y1 [.ref x0, .int x1, .int x2])) [(13, 20), (14, 24), (16, 28)] (fun v2 =>
  lm_if .eq v2 0 (B (16, [], [.long (Int64.ofNat 0), .int (Int32.ofInt 0), .ref x3])) (B (16, [], [.long (Int64.ofNat 1), .int (Int32.ofInt 0), .ref x3]))) (fun h q => B (h, [], [.ref q]))
set_option maxRecDepth 100000 in
theorem lm_e37_0 {sc : lm_H} {d : Nat} {x0 : Nat} {x1 : Int32} {x2 : Int32} {x3 : Nat} {σ : lm_S} {r : Except Nat lm_R × lm_S} (h : lm_q37_0 sc (lm_cal sc d) (lm_rn sc d lm_m37.2.2.2.2.1 (lm_reg lm_m37.2.2.2.2.2)) x0 x1 x2 x3  σ = some r) : lm_rn sc d lm_m37.2.2.2.2.1 (lm_reg lm_m37.2.2.2.2.2) (0, [(0, .ref x0), (1, .int x1), (2, .int x2), (3, .ref x3)], []) σ = some r := lm_rn_of h
/-- LatticeSuiteLaw.slhVerify, from 16 on -/
noncomputable def lm_q37_16 (sc : lm_H) (A : Nat → List Value → lm_M lm_R) (B : lm_F → lm_M lm_R)  (s0 : Int64) (s1 : Int32) (s2 : Nat) : lm_M lm_R :=
  lm_bind (lm_last s2 s1 s0) fun _ =>
  lm_ret (some (.int (Int32.ofInt 0)))
set_option maxRecDepth 100000 in
theorem lm_e37_16 {sc : lm_H} {d : Nat}  {s0 : Int64} {s1 : Int32} {s2 : Nat} {σ : lm_S} {r : Except Nat lm_R × lm_S} (h : lm_q37_16 sc (lm_cal sc d) (lm_rn sc d lm_m37.2.2.2.2.1 (lm_reg lm_m37.2.2.2.2.2))  s0 s1 s2 σ = some r) : lm_rn sc d lm_m37.2.2.2.2.1 (lm_reg lm_m37.2.2.2.2.2) (16, [], [.long s0, .int s1, .ref s2]) σ = some r := lm_rn_of h
/-- LatticeSuiteLaw.slhVerify, from 20 on -/
noncomputable def lm_q37_20 (sc : lm_H) (A : Nat → List Value → lm_M lm_R) (B : lm_F → lm_M lm_R)  (s0 : Nat) : lm_M lm_R :=
  lm_ret (some (.int (Int32.ofInt 1)))
set_option maxRecDepth 100000 in
theorem lm_e37_20 {sc : lm_H} {d : Nat}  {s0 : Nat} {σ : lm_S} {r : Except Nat lm_R × lm_S} (h : lm_q37_20 sc (lm_cal sc d) (lm_rn sc d lm_m37.2.2.2.2.1 (lm_reg lm_m37.2.2.2.2.2))  s0 σ = some r) : lm_rn sc d lm_m37.2.2.2.2.1 (lm_reg lm_m37.2.2.2.2.2) (20, [], [.ref s0]) σ = some r := lm_rn_of h
/-- LatticeSuiteLaw.slhVerify, from 24 on -/
noncomputable def lm_q37_24 (sc : lm_H) (A : Nat → List Value → lm_M lm_R) (B : lm_F → lm_M lm_R)  (s0 : Nat) : lm_M lm_R :=
  lm_ret (some (.int (Int32.ofInt 2)))
set_option maxRecDepth 100000 in
theorem lm_e37_24 {sc : lm_H} {d : Nat}  {s0 : Nat} {σ : lm_S} {r : Except Nat lm_R × lm_S} (h : lm_q37_24 sc (lm_cal sc d) (lm_rn sc d lm_m37.2.2.2.2.1 (lm_reg lm_m37.2.2.2.2.2))  s0 σ = some r) : lm_rn sc d lm_m37.2.2.2.2.1 (lm_reg lm_m37.2.2.2.2.2) (24, [], [.ref s0]) σ = some r := lm_rn_of h
/-- LatticeSuiteLaw.slhVerify, from 28 on -/
noncomputable def lm_q37_28 (sc : lm_H) (A : Nat → List Value → lm_M lm_R) (B : lm_F → lm_M lm_R)  (s0 : Nat) : lm_M lm_R :=
  lm_ret (some (.int (Int32.ofInt 3)))
set_option maxRecDepth 100000 in
theorem lm_e37_28 {sc : lm_H} {d : Nat}  {s0 : Nat} {σ : lm_S} {r : Except Nat lm_R × lm_S} (h : lm_q37_28 sc (lm_cal sc d) (lm_rn sc d lm_m37.2.2.2.2.1 (lm_reg lm_m37.2.2.2.2.2))  s0 σ = some r) : lm_rn sc d lm_m37.2.2.2.2.1 (lm_reg lm_m37.2.2.2.2.2) (28, [], [.ref s0]) σ = some r := lm_rn_of h
/-- LatticeSuiteModel.slhVerify, from 0 on -/
noncomputable def lm_q38_0 (sc : lm_H) (A : Nat → List Value → lm_M lm_R) (B : lm_F → lm_M lm_R) (x0 : Nat) (x1 : Int32) (x2 : Int32) : lm_M lm_R :=
  lm_bind (lm_asI (A 52 [.int x1, .int (Int32.ofInt 0), .int (Int32.ofInt 11)])) fun v1 =>
  lm_if .eq v1 0 (B (25, [(0, .ref x0), (1, .int x1), (2, .int x2)], [.ref x0])) (lm_bind (lm_asI (A 52 [.int x2, .int (Int32.ofInt (-1)), .int (Int32.ofInt 12)])) fun v2 =>
  lm_if .eq v2 0 (B (25, [(0, .ref x0), (1, .int x1), (2, .int x2)], [.ref x0])) (B (26, [(0, .ref x0), (1, .int x1), (2, .int x2)], [.int (Int32.ofInt 1), .ref x0])))
set_option maxRecDepth 100000 in
theorem lm_e38_0 {sc : lm_H} {d : Nat} {x0 : Nat} {x1 : Int32} {x2 : Int32} {σ : lm_S} {r : Except Nat lm_R × lm_S} (h : lm_q38_0 sc (lm_cal sc d) (lm_rn sc d lm_m38.2.2.2.2.1 (lm_reg lm_m38.2.2.2.2.2)) x0 x1 x2  σ = some r) : lm_rn sc d lm_m38.2.2.2.2.1 (lm_reg lm_m38.2.2.2.2.2) (0, [(0, .ref x0), (1, .int x1), (2, .int x2)], []) σ = some r := lm_rn_of h
/-- LatticeSuiteModel.slhVerify, from 25 on -/
noncomputable def lm_q38_25 (sc : lm_H) (A : Nat → List Value → lm_M lm_R) (B : lm_F → lm_M lm_R) (x0 : Nat) (x1 : Int32) (x2 : Int32) (s0 : Nat) : lm_M lm_R :=
  B (26, [(0, .ref x0), (1, .int x1), (2, .int x2)], [.int (Int32.ofInt 0), .ref s0])
set_option maxRecDepth 100000 in
theorem lm_e38_25 {sc : lm_H} {d : Nat} {x0 : Nat} {x1 : Int32} {x2 : Int32} {s0 : Nat} {σ : lm_S} {r : Except Nat lm_R × lm_S} (h : lm_q38_25 sc (lm_cal sc d) (lm_rn sc d lm_m38.2.2.2.2.1 (lm_reg lm_m38.2.2.2.2.2)) x0 x1 x2 s0 σ = some r) : lm_rn sc d lm_m38.2.2.2.2.1 (lm_reg lm_m38.2.2.2.2.2) (25, [(0, .ref x0), (1, .int x1), (2, .int x2)], [.ref s0]) σ = some r := lm_rn_of h
/-- LatticeSuiteModel.slhVerify, from 26 on -/
noncomputable def lm_q38_26 (sc : lm_H) (A : Nat → List Value → lm_M lm_R) (B : lm_F → lm_M lm_R) (x0 : Nat) (x1 : Int32) (x2 : Int32) (s0 : Int32) (s1 : Nat) : lm_M lm_R :=
  lm_bind (lm_sel [(11, 49)] (some (.ref s1))) fun y1 =>
  lm_bind (lm_asI (A y1 [.ref s1, .int s0, .int (Int32.ofInt 1)])) fun v2 =>
  lm_if .ne v2 0 (lm_bind (lm_sel [(11, 107)] (some (.ref x0))) fun y3 =>
  lm_bind (lm_asV (A y3 [.ref x0, .int x1])) fun _ =>
  lm_bind (lm_sel [(11, 96)] (some (.ref x0))) fun y4 =>
  lm_bind (lm_asI (A y4 [.ref x0, .int x2])) fun v5 =>
  lm_bind (lm_sel [(11, 49)] (some (.ref x0))) fun y6 =>
  lm_bind (lm_asI (A y6 [.ref x0, .int v5, .int (Int32.ofInt 2)])) fun v7 =>
  lm_if .eq v7 0 (lm_when ((Int32.ofInt 0) = 0 ∨ (Int32.ofInt 0) = 1) inferInstance (lm_ret (some (.int (Int32.ofInt 0))))) (lm_bind (lm_gR 4410 x0) fun v8 =>
  lm_bind (lm_iald sc v8 (Int32.ofInt 1)) fun v9 =>
  lm_bind (lm_gI 4668 x0) fun v10 =>
  lm_if .ne v9 ((Int32.ofInt 2) * v10) (B (74, [(0, .ref x0), (2, .int x2)], [.int (Int32.ofInt 0), .ref x0])) (B (74, [(0, .ref x0), (2, .int x2)], [.int (Int32.ofInt 1), .ref x0])))) (lm_when ((Int32.ofInt 0) = 0 ∨ (Int32.ofInt 0) = 1) inferInstance (lm_ret (some (.int (Int32.ofInt 0)))))
set_option maxRecDepth 100000 in
theorem lm_e38_26 {sc : lm_H} {d : Nat} {x0 : Nat} {x1 : Int32} {x2 : Int32} {s0 : Int32} {s1 : Nat} {σ : lm_S} {r : Except Nat lm_R × lm_S} (h : lm_q38_26 sc (lm_cal sc d) (lm_rn sc d lm_m38.2.2.2.2.1 (lm_reg lm_m38.2.2.2.2.2)) x0 x1 x2 s0 s1 σ = some r) : lm_rn sc d lm_m38.2.2.2.2.1 (lm_reg lm_m38.2.2.2.2.2) (26, [(0, .ref x0), (1, .int x1), (2, .int x2)], [.int s0, .ref s1]) σ = some r := lm_rn_of h
/-- LatticeSuiteModel.slhVerify, from 74 on -/
noncomputable def lm_q38_74 (sc : lm_H) (A : Nat → List Value → lm_M lm_R) (B : lm_F → lm_M lm_R) (x0 : Nat) (x2 : Int32) (s0 : Int32) (s1 : Nat) : lm_M lm_R :=
  lm_bind (lm_sel [(11, 49)] (some (.ref s1))) fun y1 =>
  lm_bind (lm_asI (A y1 [.ref s1, .int s0, .int (Int32.ofInt 3)])) fun v2 =>
  lm_if .ne v2 0 (lm_bind (lm_gR 4410 x0) fun v3 =>
  lm_bind (lm_iald sc v3 (Int32.ofInt 5)) fun v4 =>
  lm_bind (lm_gI 4668 x0) fun v5 =>
  lm_bind (lm_gI 4688 x0) fun v6 =>
  lm_bind (lm_gI 4684 x0) fun v7 =>
  lm_bind (lm_gI 4672 x0) fun v8 =>
  lm_bind (lm_gI 4676 x0) fun v9 =>
  lm_bind (lm_gI 4692 x0) fun v10 =>
  lm_if .eq v4 (v5 * ((((Int32.ofInt 1) + (v6 * ((Int32.ofInt 1) + v7))) + v8) + (v9 * v10))) (lm_bind (lm_gR 4406 x0) fun v11 =>
  lm_bind (lm_aaR sc v11 (Int32.ofInt 1)) fun v12 =>
  lm_bind (lm_gR 4654 x0) fun v13 =>
  lm_bind (lm_gI 4668 x0) fun v14 =>
  lm_bind (lm_asV (A 75 [.ref v12, .int (Int32.ofInt 0), .ref v13, .int (Int32.ofInt 0), .int v14])) fun _ =>
  lm_bind (lm_gR 4406 x0) fun v15 =>
  lm_bind (lm_aaR sc v15 (Int32.ofInt 1)) fun v16 =>
  lm_bind (lm_gI 4668 x0) fun v17 =>
  lm_bind (lm_gR 4666 x0) fun v18 =>
  lm_bind (lm_gI 4668 x0) fun v19 =>
  lm_bind (lm_asV (A 75 [.ref v16, .int v17, .ref v18, .int (Int32.ofInt 0), .int v19])) fun _ =>
  lm_bind (lm_gR 4406 x0) fun v20 =>
  lm_bind (lm_aaR sc v20 (Int32.ofInt 5)) fun v21 =>
  lm_bind (lm_sel [(11, 114)] (some (.ref x0))) fun y22 =>
  lm_bind (lm_asV (A y22 [.ref x0, .ref v21, .int (Int32.ofInt 0), .int x2])) fun _ =>
  lm_bind (lm_sel [(11, 115)] (some (.ref x0))) fun y23 =>
  lm_bind (lm_asL (A y23 [.ref x0])) fun v24 =>
  lm_bind (lm_sel [(11, 116)] (some (.ref x0))) fun y25 =>
  lm_bind (lm_asI (A y25 [.ref x0])) fun v26 =>
  lm_bind (lm_sel [(11, 108)] (some (.ref x0))) fun y27 =>
  lm_bind (lm_asV (A y27 [.ref x0, .int (Int32.ofInt 0), .long v24])) fun _ =>
  lm_bind (lm_gR 4406 x0) fun v28 =>
  lm_bind (lm_aaR sc v28 (Int32.ofInt 5)) fun v29 =>
  lm_bind (lm_gI 4668 x0) fun v30 =>
  lm_bind (lm_sel [(11, 118)] (some (.ref x0))) fun y31 =>
  lm_bind (lm_asV (A y31 [.ref x0, .int v26, .ref v29, .int v30])) fun _ =>
  lm_bind (lm_gI 4668 x0) fun v32 =>
  lm_bind (lm_gI 4688 x0) fun v33 =>
  lm_bind (lm_gI 4684 x0) fun v34 =>
  lm_bind (lm_gI 4668 x0) fun v35 =>
  B (239, [(0, .ref x0), (3, .long v24), (5, .int v26), (6, .int (v32 + ((v33 * ((Int32.ofInt 1) + v34)) * v35))), (7, .int (Int32.ofInt 0))], [])) (lm_when ((Int32.ofInt 0) = 0 ∨ (Int32.ofInt 0) = 1) inferInstance (lm_ret (some (.int (Int32.ofInt 0)))))) (lm_when ((Int32.ofInt 0) = 0 ∨ (Int32.ofInt 0) = 1) inferInstance (lm_ret (some (.int (Int32.ofInt 0)))))
set_option maxRecDepth 100000 in
theorem lm_e38_74 {sc : lm_H} {d : Nat} {x0 : Nat} {x2 : Int32} {s0 : Int32} {s1 : Nat} {σ : lm_S} {r : Except Nat lm_R × lm_S} (h : lm_q38_74 sc (lm_cal sc d) (lm_rn sc d lm_m38.2.2.2.2.1 (lm_reg lm_m38.2.2.2.2.2)) x0 x2 s0 s1 σ = some r) : lm_rn sc d lm_m38.2.2.2.2.1 (lm_reg lm_m38.2.2.2.2.2) (74, [(0, .ref x0), (2, .int x2)], [.int s0, .ref s1]) σ = some r := lm_rn_of h
/-- LatticeSuiteModel.slhVerify, from 239 on -/
noncomputable def lm_q38_239 (sc : lm_H) (A : Nat → List Value → lm_M lm_R) (B : lm_F → lm_M lm_R) (x0 : Nat) (x3 : Int64) (x5 : Int32) (x6 : Int32) (x7 : Int32) : lm_M lm_R :=
  lm_bind (lm_gI 4676 x0) fun v1 =>
  lm_if .ge x7 v1 (lm_bind (lm_gR 4638 x0) fun v2 =>
  lm_bind (lm_gR 4406 x0) fun v3 =>
  lm_bind (lm_aaR sc v3 (Int32.ofInt 6)) fun v4 =>
  lm_bind (lm_gI 4668 x0) fun v5 =>
  lm_bind (lm_asV (A 75 [.ref v2, .int (Int32.ofInt 0), .ref v4, .int (Int32.ofInt 0), .int v5])) fun _ =>
  lm_bind (lm_gR 4410 x0) fun v6 =>
  lm_bind (lm_gI 4668 x0) fun v7 =>
  lm_bind (lm_iast v6 (Int32.ofInt 6) v7) fun _ =>
  lm_bind (lm_gR 4638 x0) fun v8 =>
  lm_bind (lm_gR 4666 x0) fun v9 =>
  lm_bind (lm_gI 4668 x0) fun v10 =>
  lm_bind (lm_asI (A 80 [.ref v8, .int (Int32.ofInt 0), .ref v9, .int (Int32.ofInt 0), .int v10])) fun v11 =>
  lm_when (v11 = 0 ∨ v11 = 1) inferInstance (lm_ret (some (.int v11)))) (lm_bind (lm_sel [(11, 108)] (some (.ref x0))) fun y12 =>
  lm_bind (lm_asV (A y12 [.ref x0, .int x7, .long x3])) fun _ =>
  lm_bind (lm_gR 4638 x0) fun v13 =>
  lm_bind (lm_gR 4662 x0) fun v14 =>
  lm_bind (lm_gI 4668 x0) fun v15 =>
  lm_bind (lm_asV (A 75 [.ref v13, .int (Int32.ofInt 0), .ref v14, .int (Int32.ofInt 0), .int v15])) fun _ =>
  lm_bind (lm_gR 4406 x0) fun v16 =>
  lm_bind (lm_aaR sc v16 (Int32.ofInt 5)) fun v17 =>
  lm_bind (lm_gR 4662 x0) fun v18 =>
  lm_bind (lm_sel [(11, 120)] (some (.ref x0))) fun y19 =>
  lm_bind (lm_asV (A y19 [.ref x0, .int x5, .ref v17, .int x6, .ref v18, .int (Int32.ofInt 0)])) fun _ =>
  lm_bind (lm_gI 4692 x0) fun v20 =>
  lm_bind (lm_gI 4680 x0) fun v21 =>
  lm_bind (lm_gI 4668 x0) fun v22 =>
  lm_bind (lm_gI 4680 x0) fun v23 =>
  lm_bind (lm_gI 4680 x0) fun v24 =>
  B (239, [(0, .ref x0), (3, .long (lm_uL x3 v24)), (5, .int (Int64.toInt32 (x3 &&& (((Int64.ofNat 1) <<< ((Int32.toInt64 v23) &&& 63)) - (Int64.ofNat 1))))), (6, .int (x6 + ((v20 + v21) * v22))), (7, .int (x7 + Int32.ofInt 1))], []))
set_option maxRecDepth 100000 in
theorem lm_e38_239 {sc : lm_H} {d : Nat} {x0 : Nat} {x3 : Int64} {x5 : Int32} {x6 : Int32} {x7 : Int32} {σ : lm_S} {r : Except Nat lm_R × lm_S} (h : lm_q38_239 sc (lm_cal sc d) (lm_rn sc d lm_m38.2.2.2.2.1 (lm_reg lm_m38.2.2.2.2.2)) x0 x3 x5 x6 x7  σ = some r) : lm_rn sc d lm_m38.2.2.2.2.1 (lm_reg lm_m38.2.2.2.2.2) (239, [(0, .ref x0), (3, .long x3), (5, .int x5), (6, .int x6), (7, .int x7)], []) σ = some r := lm_rn_of h
/-- LatticeSuiteLaw.slhNode, from 0 on -/
noncomputable def lm_q39_0 (sc : lm_H) (A : Nat → List Value → lm_M lm_R) (B : lm_F → lm_M lm_R) (x0 : Nat) (x1 : Int32) (x2 : Int32) (x3 : Int32) (x4 : Int32) (x5 : Int32) (x6 : Nat) : lm_M lm_R :=
  lm_bind (lm_sel [(0, 122)] (some (.ref x0))) fun y1 =>
  lm_try (lm_asI (A y1 [.ref x0, .int x1, .int x2, .int x3, .int x4, .int x5])) [(13, 19), (16, 23)] (fun v2 =>
  lm_bind (lm_last x6 (Int32.ofInt 0) (Int32.toInt64 v2)) fun _ =>
  lm_ret (some (.int (Int32.ofInt 0)))) (fun h q => B (h, [], [.ref q]))
set_option maxRecDepth 100000 in
theorem lm_e39_0 {sc : lm_H} {d : Nat} {x0 : Nat} {x1 : Int32} {x2 : Int32} {x3 : Int32} {x4 : Int32} {x5 : Int32} {x6 : Nat} {σ : lm_S} {r : Except Nat lm_R × lm_S} (h : lm_q39_0 sc (lm_cal sc d) (lm_rn sc d lm_m39.2.2.2.2.1 (lm_reg lm_m39.2.2.2.2.2)) x0 x1 x2 x3 x4 x5 x6  σ = some r) : lm_rn sc d lm_m39.2.2.2.2.1 (lm_reg lm_m39.2.2.2.2.2) (0, [(0, .ref x0), (1, .int x1), (2, .int x2), (3, .int x3), (4, .int x4), (5, .int x5), (6, .ref x6)], []) σ = some r := lm_rn_of h
/-- LatticeSuiteLaw.slhNode, from 19 on -/
noncomputable def lm_q39_19 (sc : lm_H) (A : Nat → List Value → lm_M lm_R) (B : lm_F → lm_M lm_R)  (s0 : Nat) : lm_M lm_R :=
  lm_ret (some (.int (Int32.ofInt 1)))
set_option maxRecDepth 100000 in
theorem lm_e39_19 {sc : lm_H} {d : Nat}  {s0 : Nat} {σ : lm_S} {r : Except Nat lm_R × lm_S} (h : lm_q39_19 sc (lm_cal sc d) (lm_rn sc d lm_m39.2.2.2.2.1 (lm_reg lm_m39.2.2.2.2.2))  s0 σ = some r) : lm_rn sc d lm_m39.2.2.2.2.1 (lm_reg lm_m39.2.2.2.2.2) (19, [], [.ref s0]) σ = some r := lm_rn_of h
/-- LatticeSuiteLaw.slhNode, from 23 on -/
noncomputable def lm_q39_23 (sc : lm_H) (A : Nat → List Value → lm_M lm_R) (B : lm_F → lm_M lm_R)  (s0 : Nat) : lm_M lm_R :=
  lm_ret (some (.int (Int32.ofInt 2)))
set_option maxRecDepth 100000 in
theorem lm_e39_23 {sc : lm_H} {d : Nat}  {s0 : Nat} {σ : lm_S} {r : Except Nat lm_R × lm_S} (h : lm_q39_23 sc (lm_cal sc d) (lm_rn sc d lm_m39.2.2.2.2.1 (lm_reg lm_m39.2.2.2.2.2))  s0 σ = some r) : lm_rn sc d lm_m39.2.2.2.2.1 (lm_reg lm_m39.2.2.2.2.2) (23, [], [.ref s0]) σ = some r := lm_rn_of h
/-- LatticeSuiteModel.slhNode, from 0 on -/
noncomputable def lm_q40_0 (sc : lm_H) (A : Nat → List Value → lm_M lm_R) (B : lm_F → lm_M lm_R) (x0 : Nat) (x1 : Int32) (x2 : Int32) (x3 : Int32) (x4 : Int32) (x5 : Int32) : lm_M lm_R :=
  lm_bind (lm_asI (A 52 [.int x1, .int (Int32.ofInt 0), .int (Int32.ofInt 11)])) fun v1 =>
  lm_bind (lm_sel [(11, 49)] (some (.ref x0))) fun y2 =>
  lm_bind (lm_asI (A y2 [.ref x0, .int v1, .int (Int32.ofInt 1)])) fun v3 =>
  lm_if .ne v3 0 (lm_bind (lm_sel [(11, 107)] (some (.ref x0))) fun y4 =>
  lm_bind (lm_asV (A y4 [.ref x0, .int x1])) fun _ =>
  lm_bind (lm_gI 4676 x0) fun v5 =>
  lm_bind (lm_asI (A 52 [.int x2, .int (Int32.ofInt 0), .int (v5 - (Int32.ofInt 1))])) fun v6 =>
  lm_if .eq v6 0 (B (78, [(0, .ref x0), (2, .int x2), (3, .int x3), (4, .int x4), (5, .int x5)], [.ref x0])) (lm_if .lt x3 0 (B (78, [(0, .ref x0), (2, .int x2), (3, .int x3), (4, .int x4), (5, .int x5)], [.ref x0])) (lm_bind (lm_gI 4680 x0) fun v7 =>
  lm_bind (lm_asI (A 52 [.int x4, .int (Int32.ofInt 0), .int v7])) fun v8 =>
  lm_if .eq v8 0 (B (78, [(0, .ref x0), (2, .int x2), (3, .int x3), (4, .int x4), (5, .int x5)], [.ref x0])) (lm_bind (lm_gI 4680 x0) fun v9 =>
  lm_bind (lm_asI (A 52 [.int x5, .int (Int32.ofInt 0), .int (((Int32.ofInt 1) <<< ((v9 - x4) &&& 31)) - (Int32.ofInt 1))])) fun v10 =>
  lm_if .eq v10 0 (B (78, [(0, .ref x0), (2, .int x2), (3, .int x3), (4, .int x4), (5, .int x5)], [.ref x0])) (B (79, [(0, .ref x0), (2, .int x2), (3, .int x3), (4, .int x4), (5, .int x5)], [.int (Int32.ofInt 1), .ref x0])))))) (lm_ret (some (.int (Int32.ofInt 0))))
set_option maxRecDepth 100000 in
theorem lm_e40_0 {sc : lm_H} {d : Nat} {x0 : Nat} {x1 : Int32} {x2 : Int32} {x3 : Int32} {x4 : Int32} {x5 : Int32} {σ : lm_S} {r : Except Nat lm_R × lm_S} (h : lm_q40_0 sc (lm_cal sc d) (lm_rn sc d lm_m40.2.2.2.2.1 (lm_reg lm_m40.2.2.2.2.2)) x0 x1 x2 x3 x4 x5  σ = some r) : lm_rn sc d lm_m40.2.2.2.2.1 (lm_reg lm_m40.2.2.2.2.2) (0, [(0, .ref x0), (1, .int x1), (2, .int x2), (3, .int x3), (4, .int x4), (5, .int x5)], []) σ = some r := lm_rn_of h
/-- LatticeSuiteModel.slhNode, from 78 on -/
noncomputable def lm_q40_78 (sc : lm_H) (A : Nat → List Value → lm_M lm_R) (B : lm_F → lm_M lm_R) (x0 : Nat) (x2 : Int32) (x3 : Int32) (x4 : Int32) (x5 : Int32) (s0 : Nat) : lm_M lm_R :=
  B (79, [(0, .ref x0), (2, .int x2), (3, .int x3), (4, .int x4), (5, .int x5)], [.int (Int32.ofInt 0), .ref s0])
set_option maxRecDepth 100000 in
theorem lm_e40_78 {sc : lm_H} {d : Nat} {x0 : Nat} {x2 : Int32} {x3 : Int32} {x4 : Int32} {x5 : Int32} {s0 : Nat} {σ : lm_S} {r : Except Nat lm_R × lm_S} (h : lm_q40_78 sc (lm_cal sc d) (lm_rn sc d lm_m40.2.2.2.2.1 (lm_reg lm_m40.2.2.2.2.2)) x0 x2 x3 x4 x5 s0 σ = some r) : lm_rn sc d lm_m40.2.2.2.2.1 (lm_reg lm_m40.2.2.2.2.2) (78, [(0, .ref x0), (2, .int x2), (3, .int x3), (4, .int x4), (5, .int x5)], [.ref s0]) σ = some r := lm_rn_of h
/-- LatticeSuiteModel.slhNode, from 79 on -/
noncomputable def lm_q40_79 (sc : lm_H) (A : Nat → List Value → lm_M lm_R) (B : lm_F → lm_M lm_R) (x0 : Nat) (x2 : Int32) (x3 : Int32) (x4 : Int32) (x5 : Int32) (s0 : Int32) (s1 : Nat) : lm_M lm_R :=
  lm_bind (lm_sel [(11, 49)] (some (.ref s1))) fun y1 =>
  lm_bind (lm_asI (A y1 [.ref s1, .int s0, .int (Int32.ofInt 1)])) fun v2 =>
  lm_if .eq v2 0 (lm_ret (some (.int (Int32.ofInt 0)))) (lm_bind (lm_gR 4410 x0) fun v3 =>
  lm_bind (lm_iald sc v3 (Int32.ofInt 2)) fun v4 =>
  lm_bind (lm_gI 4668 x0) fun v5 =>
  lm_if .ne v4 ((Int32.ofInt 4) * v5) (B (107, [(0, .ref x0), (2, .int x2), (3, .int x3), (4, .int x4), (5, .int x5)], [.int (Int32.ofInt 0), .ref x0])) (B (107, [(0, .ref x0), (2, .int x2), (3, .int x3), (4, .int x4), (5, .int x5)], [.int (Int32.ofInt 1), .ref x0])))
set_option maxRecDepth 100000 in
theorem lm_e40_79 {sc : lm_H} {d : Nat} {x0 : Nat} {x2 : Int32} {x3 : Int32} {x4 : Int32} {x5 : Int32} {s0 : Int32} {s1 : Nat} {σ : lm_S} {r : Except Nat lm_R × lm_S} (h : lm_q40_79 sc (lm_cal sc d) (lm_rn sc d lm_m40.2.2.2.2.1 (lm_reg lm_m40.2.2.2.2.2)) x0 x2 x3 x4 x5 s0 s1 σ = some r) : lm_rn sc d lm_m40.2.2.2.2.1 (lm_reg lm_m40.2.2.2.2.2) (79, [(0, .ref x0), (2, .int x2), (3, .int x3), (4, .int x4), (5, .int x5)], [.int s0, .ref s1]) σ = some r := lm_rn_of h
/-- LatticeSuiteModel.slhNode, from 107 on -/
noncomputable def lm_q40_107 (sc : lm_H) (A : Nat → List Value → lm_M lm_R) (B : lm_F → lm_M lm_R) (x0 : Nat) (x2 : Int32) (x3 : Int32) (x4 : Int32) (x5 : Int32) (s0 : Int32) (s1 : Nat) : lm_M lm_R :=
  lm_bind (lm_sel [(11, 49)] (some (.ref s1))) fun y1 =>
  lm_bind (lm_asI (A y1 [.ref s1, .int s0, .int (Int32.ofInt 2)])) fun v2 =>
  lm_if .ne v2 0 (lm_bind (lm_gR 4406 x0) fun v3 =>
  lm_bind (lm_aaR sc v3 (Int32.ofInt 2)) fun v4 =>
  lm_bind (lm_gR 4658 x0) fun v5 =>
  lm_bind (lm_gI 4668 x0) fun v6 =>
  lm_bind (lm_asV (A 75 [.ref v4, .int (Int32.ofInt 0), .ref v5, .int (Int32.ofInt 0), .int v6])) fun _ =>
  lm_bind (lm_gR 4406 x0) fun v7 =>
  lm_bind (lm_aaR sc v7 (Int32.ofInt 2)) fun v8 =>
  lm_bind (lm_gI 4668 x0) fun v9 =>
  lm_bind (lm_gR 4654 x0) fun v10 =>
  lm_bind (lm_gI 4668 x0) fun v11 =>
  lm_bind (lm_asV (A 75 [.ref v8, .int ((Int32.ofInt 2) * v9), .ref v10, .int (Int32.ofInt 0), .int v11])) fun _ =>
  lm_bind (lm_sel [(11, 108)] (some (.ref x0))) fun y12 =>
  lm_bind (lm_asV (A y12 [.ref x0, .int x2, .long (Int32.toInt64 x3)])) fun _ =>
  lm_bind (lm_gR 4406 x0) fun v13 =>
  lm_bind (lm_aaR sc v13 (Int32.ofInt 6)) fun v14 =>
  lm_bind (lm_sel [(11, 109)] (some (.ref x0))) fun y15 =>
  lm_bind (lm_asV (A y15 [.ref x0, .int x4, .int x5, .ref v14, .int (Int32.ofInt 0)])) fun _ =>
  lm_bind (lm_gR 4410 x0) fun v16 =>
  lm_bind (lm_gI 4668 x0) fun v17 =>
  lm_bind (lm_iast v16 (Int32.ofInt 6) v17) fun _ =>
  lm_bind (lm_gR 4406 x0) fun v18 =>
  lm_bind (lm_aaR sc v18 (Int32.ofInt 6)) fun v19 =>
  lm_bind (lm_gR 4406 x0) fun v20 =>
  lm_bind (lm_aaR sc v20 (Int32.ofInt 2)) fun v21 =>
  lm_bind (lm_gI 4668 x0) fun v22 =>
  lm_bind (lm_gI 4668 x0) fun v23 =>
  lm_bind (lm_asI (A 80 [.ref v19, .int (Int32.ofInt 0), .ref v21, .int ((Int32.ofInt 3) * v22), .int v23])) fun v24 =>
  lm_if .eq v24 0 (lm_ret (some (.int (Int32.ofInt 0)))) (lm_ret (some (.int (Int32.ofInt 1))))) (lm_ret (some (.int (Int32.ofInt 0))))
set_option maxRecDepth 100000 in
theorem lm_e40_107 {sc : lm_H} {d : Nat} {x0 : Nat} {x2 : Int32} {x3 : Int32} {x4 : Int32} {x5 : Int32} {s0 : Int32} {s1 : Nat} {σ : lm_S} {r : Except Nat lm_R × lm_S} (h : lm_q40_107 sc (lm_cal sc d) (lm_rn sc d lm_m40.2.2.2.2.1 (lm_reg lm_m40.2.2.2.2.2)) x0 x2 x3 x4 x5 s0 s1 σ = some r) : lm_rn sc d lm_m40.2.2.2.2.1 (lm_reg lm_m40.2.2.2.2.2) (107, [(0, .ref x0), (2, .int x2), (3, .int x3), (4, .int x4), (5, .int x5)], [.int s0, .ref s1]) σ = some r := lm_rn_of h
/-- LatticeSuite$Bytes.<init>, from 0 on -/
noncomputable def lm_q41_0 (sc : lm_H) (A : Nat → List Value → lm_M lm_R) (B : lm_F → lm_M lm_R) (x0 : Nat) : lm_M lm_R :=
  lm_bind (lm_newa .byte (Int32.ofInt 65536)) fun q1 =>
  lm_bind (lm_putf 402 x0 (.ref q1)) fun _ =>
  lm_ret none
set_option maxRecDepth 100000 in
theorem lm_e41_0 {sc : lm_H} {d : Nat} {x0 : Nat} {σ : lm_S} {r : Except Nat lm_R × lm_S} (h : lm_q41_0 sc (lm_cal sc d) (lm_rn sc d lm_m41.2.2.2.2.1 (lm_reg lm_m41.2.2.2.2.2)) x0  σ = some r) : lm_rn sc d lm_m41.2.2.2.2.1 (lm_reg lm_m41.2.2.2.2.2) (0, [(0, .ref x0)], []) σ = some r := lm_rn_of h
/-- LatticeSuite$Hashes.<init>, from 0 on -/
noncomputable def lm_q42_0 (sc : lm_H) (A : Nat → List Value → lm_M lm_R) (B : lm_F → lm_M lm_R) (x0 : Nat) : lm_M lm_R :=
  lm_bind (lm_push (.inr (.inr (.inr (5, [.null, .int 0, .int 0, .long 0, .null, .int 0, .long 0, .null, .null, .null, .int 0])))) 11) fun q1 =>
  lm_bind (lm_sel [(5, 123)] (some (.ref q1))) fun y2 =>
  lm_bind (lm_asV (A y2 [.ref q1])) fun _ =>
  lm_bind (lm_putf 802 x0 (.ref q1)) fun _ =>
  lm_bind (lm_push (.inr (.inr (.inr (6, [.null, .int 0, .int 0, .long 0, .null, .int 0, .long 0, .null, .null, .null])))) 10) fun q3 =>
  lm_bind (lm_sel [(6, 124)] (some (.ref q3))) fun y4 =>
  lm_bind (lm_asV (A y4 [.ref q3])) fun _ =>
  lm_bind (lm_putf 806 x0 (.ref q3)) fun _ =>
  lm_bind (lm_push (.inr (.inr (.inr (7, [.null, .int 0, .int 0, .long 0, .null, .int 0, .long 0, .null, .null, .null])))) 10) fun q5 =>
  lm_bind (lm_sel [(7, 125)] (some (.ref q5))) fun y6 =>
  lm_bind (lm_asV (A y6 [.ref q5])) fun _ =>
  lm_bind (lm_putf 810 x0 (.ref q5)) fun _ =>
  lm_bind (lm_newa .byte (Int32.ofInt 128)) fun q7 =>
  lm_bind (lm_putf 814 x0 (.ref q7)) fun _ =>
  lm_bind (lm_newa .byte (Int32.ofInt 64)) fun q8 =>
  lm_bind (lm_putf 818 x0 (.ref q8)) fun _ =>
  lm_bind (lm_newa .byte (Int32.ofInt 4)) fun q9 =>
  lm_bind (lm_putf 822 x0 (.ref q9)) fun _ =>
  lm_ret none
set_option maxRecDepth 100000 in
theorem lm_e42_0 {sc : lm_H} {d : Nat} {x0 : Nat} {σ : lm_S} {r : Except Nat lm_R × lm_S} (h : lm_q42_0 sc (lm_cal sc d) (lm_rn sc d lm_m42.2.2.2.2.1 (lm_reg lm_m42.2.2.2.2.2)) x0  σ = some r) : lm_rn sc d lm_m42.2.2.2.2.1 (lm_reg lm_m42.2.2.2.2.2) (0, [(0, .ref x0)], []) σ = some r := lm_rn_of h
/-- LatticeSuite$Signed.<init>, from 0 on -/
noncomputable def lm_q43_0 (sc : lm_H) (A : Nat → List Value → lm_M lm_R) (B : lm_F → lm_M lm_R) (x0 : Nat) (x1 : Nat) (x2 : Nat) (x3 : Nat) : lm_M lm_R :=
  lm_bind (lm_newa .byte (Int32.ofInt 332)) fun q1 =>
  lm_bind (lm_putf 1614 x0 (.ref q1)) fun _ =>
  lm_bind (lm_putf 1602 x0 (.ref x1)) fun _ =>
  lm_bind (lm_putf 1606 x0 (.ref x2)) fun _ =>
  lm_bind (lm_putf 1610 x0 (.ref x3)) fun _ =>
  lm_ret none
set_option maxRecDepth 100000 in
theorem lm_e43_0 {sc : lm_H} {d : Nat} {x0 : Nat} {x1 : Nat} {x2 : Nat} {x3 : Nat} {σ : lm_S} {r : Except Nat lm_R × lm_S} (h : lm_q43_0 sc (lm_cal sc d) (lm_rn sc d lm_m43.2.2.2.2.1 (lm_reg lm_m43.2.2.2.2.2)) x0 x1 x2 x3  σ = some r) : lm_rn sc d lm_m43.2.2.2.2.1 (lm_reg lm_m43.2.2.2.2.2) (0, [(0, .ref x0), (1, .ref x1), (2, .ref x2), (3, .ref x3)], []) σ = some r := lm_rn_of h
/-- LatticeSuite$Kem.<init>, from 0 on -/
noncomputable def lm_q44_0 (sc : lm_H) (A : Nat → List Value → lm_M lm_R) (B : lm_F → lm_M lm_R) (x0 : Nat) (x1 : Nat) : lm_M lm_R :=
  lm_bind (lm_newa .int (Int32.ofInt 128)) fun q1 =>
  lm_bind (lm_putf 3206 x0 (.ref q1)) fun _ =>
  lm_bind (lm_newa .int (Int32.ofInt 128)) fun q2 =>
  lm_bind (lm_putf 3210 x0 (.ref q2)) fun _ =>
  lm_bind (lm_newm 3 (Int32.ofInt 16) (Int32.ofInt 256)) fun q3 =>
  lm_bind (lm_putf 3214 x0 (.ref q3)) fun _ =>
  lm_bind (lm_newm 3 (Int32.ofInt 4) (Int32.ofInt 256)) fun q4 =>
  lm_bind (lm_putf 3218 x0 (.ref q4)) fun _ =>
  lm_bind (lm_newa .int (Int32.ofInt 256)) fun q5 =>
  lm_bind (lm_putf 3222 x0 (.ref q5)) fun _ =>
  lm_bind (lm_newa .int (Int32.ofInt 256)) fun q6 =>
  lm_bind (lm_putf 3226 x0 (.ref q6)) fun _ =>
  lm_bind (lm_newa .byte (Int32.ofInt 192)) fun q7 =>
  lm_bind (lm_putf 3230 x0 (.ref q7)) fun _ =>
  lm_bind (lm_newa .byte (Int32.ofInt 34)) fun q8 =>
  lm_bind (lm_putf 3234 x0 (.ref q8)) fun _ =>
  lm_bind (lm_newa .byte (Int32.ofInt 64)) fun q9 =>
  lm_bind (lm_putf 3238 x0 (.ref q9)) fun _ =>
  lm_bind (lm_newa .byte (Int32.ofInt 32)) fun q10 =>
  lm_bind (lm_putf 3242 x0 (.ref q10)) fun _ =>
  lm_bind (lm_newa .byte (Int32.ofInt 1568)) fun q11 =>
  lm_bind (lm_putf 3246 x0 (.ref q11)) fun _ =>
  lm_bind (lm_putf 3202 x0 (.ref x1)) fun _ =>
  B (116, [(0, .ref x0), (2, .int (Int32.ofInt 1)), (3, .int (Int32.ofInt 0))], [])
set_option maxRecDepth 100000 in
theorem lm_e44_0 {sc : lm_H} {d : Nat} {x0 : Nat} {x1 : Nat} {σ : lm_S} {r : Except Nat lm_R × lm_S} (h : lm_q44_0 sc (lm_cal sc d) (lm_rn sc d lm_m44.2.2.2.2.1 (lm_reg lm_m44.2.2.2.2.2)) x0 x1  σ = some r) : lm_rn sc d lm_m44.2.2.2.2.1 (lm_reg lm_m44.2.2.2.2.2) (0, [(0, .ref x0), (1, .ref x1)], []) σ = some r := lm_rn_of h
/-- LatticeSuite$Kem.<init>, from 116 on -/
noncomputable def lm_q44_116 (sc : lm_H) (A : Nat → List Value → lm_M lm_R) (B : lm_F → lm_M lm_R) (x0 : Nat) (x2 : Int32) (x3 : Int32) : lm_M lm_R :=
  lm_if .ge x3 (Int32.ofInt 256) (lm_ret none) (lm_if .ge x3 (Int32.ofInt 128) (B (142, [(0, .ref x0), (2, .int x2), (3, .int x3)], [])) (lm_bind (lm_gR 3206 x0) fun v1 =>
  lm_bind (lm_asI (A 126 [.int x3, .int (Int32.ofInt 7)])) fun v2 =>
  lm_bind (lm_iast v1 v2 x2) fun _ =>
  B (142, [(0, .ref x0), (2, .int x2), (3, .int x3)], [])))
set_option maxRecDepth 100000 in
theorem lm_e44_116 {sc : lm_H} {d : Nat} {x0 : Nat} {x2 : Int32} {x3 : Int32} {σ : lm_S} {r : Except Nat lm_R × lm_S} (h : lm_q44_116 sc (lm_cal sc d) (lm_rn sc d lm_m44.2.2.2.2.1 (lm_reg lm_m44.2.2.2.2.2)) x0 x2 x3  σ = some r) : lm_rn sc d lm_m44.2.2.2.2.1 (lm_reg lm_m44.2.2.2.2.2) (116, [(0, .ref x0), (2, .int x2), (3, .int x3)], []) σ = some r := lm_rn_of h
/-- LatticeSuite$Kem.<init>, from 142 on -/
noncomputable def lm_q44_142 (sc : lm_H) (A : Nat → List Value → lm_M lm_R) (B : lm_F → lm_M lm_R) (x0 : Nat) (x2 : Int32) (x3 : Int32) : lm_M lm_R :=
  lm_when (¬ (Int32.ofInt 2) = 0) inferInstance (lm_if .ne (lm_rem x3 (Int32.ofInt 2)) (Int32.ofInt 1) (B (163, [(0, .ref x0), (2, .int x2), (3, .int x3)], [])) (lm_bind (lm_gR 3210 x0) fun v1 =>
  lm_when (¬ (Int32.ofInt 2) = 0) inferInstance (lm_bind (lm_asI (A 126 [.int (x3 / (Int32.ofInt 2)), .int (Int32.ofInt 7)])) fun v2 =>
  lm_bind (lm_iast v1 v2 x2) fun _ =>
  B (163, [(0, .ref x0), (2, .int x2), (3, .int x3)], []))))
set_option maxRecDepth 100000 in
theorem lm_e44_142 {sc : lm_H} {d : Nat} {x0 : Nat} {x2 : Int32} {x3 : Int32} {σ : lm_S} {r : Except Nat lm_R × lm_S} (h : lm_q44_142 sc (lm_cal sc d) (lm_rn sc d lm_m44.2.2.2.2.1 (lm_reg lm_m44.2.2.2.2.2)) x0 x2 x3  σ = some r) : lm_rn sc d lm_m44.2.2.2.2.1 (lm_reg lm_m44.2.2.2.2.2) (142, [(0, .ref x0), (2, .int x2), (3, .int x3)], []) σ = some r := lm_rn_of h
/-- LatticeSuite$Kem.<init>, from 163 on -/
noncomputable def lm_q44_163 (sc : lm_H) (A : Nat → List Value → lm_M lm_R) (B : lm_F → lm_M lm_R) (x0 : Nat) (x2 : Int32) (x3 : Int32) : lm_M lm_R :=
  lm_when (¬ (Int32.ofInt 3329) = 0) inferInstance (B (116, [(0, .ref x0), (2, .int (lm_rem (x2 * (Int32.ofInt 17)) (Int32.ofInt 3329))), (3, .int (x3 + Int32.ofInt 1))], []))
set_option maxRecDepth 100000 in
theorem lm_e44_163 {sc : lm_H} {d : Nat} {x0 : Nat} {x2 : Int32} {x3 : Int32} {σ : lm_S} {r : Except Nat lm_R × lm_S} (h : lm_q44_163 sc (lm_cal sc d) (lm_rn sc d lm_m44.2.2.2.2.1 (lm_reg lm_m44.2.2.2.2.2)) x0 x2 x3  σ = some r) : lm_rn sc d lm_m44.2.2.2.2.1 (lm_reg lm_m44.2.2.2.2.2) (163, [(0, .ref x0), (2, .int x2), (3, .int x3)], []) σ = some r := lm_rn_of h
/-- LatticeSuite$Dsa.<init>, from 0 on -/
noncomputable def lm_q45_0 (sc : lm_H) (A : Nat → List Value → lm_M lm_R) (B : lm_F → lm_M lm_R) (x0 : Nat) (x1 : Nat) : lm_M lm_R :=
  lm_bind (lm_newa .int (Int32.ofInt 256)) fun q1 =>
  lm_bind (lm_putf 3606 x0 (.ref q1)) fun _ =>
  lm_bind (lm_newm 3 (Int32.ofInt 56) (Int32.ofInt 256)) fun q2 =>
  lm_bind (lm_putf 3610 x0 (.ref q2)) fun _ =>
  lm_bind (lm_newm 3 (Int32.ofInt 15) (Int32.ofInt 256)) fun q3 =>
  lm_bind (lm_putf 3614 x0 (.ref q3)) fun _ =>
  lm_bind (lm_newm 3 (Int32.ofInt 8) (Int32.ofInt 256)) fun q4 =>
  lm_bind (lm_putf 3618 x0 (.ref q4)) fun _ =>
  lm_bind (lm_newm 3 (Int32.ofInt 7) (Int32.ofInt 256)) fun q5 =>
  lm_bind (lm_putf 3622 x0 (.ref q5)) fun _ =>
  lm_bind (lm_newm 3 (Int32.ofInt 7) (Int32.ofInt 256)) fun q6 =>
  lm_bind (lm_putf 3626 x0 (.ref q6)) fun _ =>
  lm_bind (lm_newm 3 (Int32.ofInt 8) (Int32.ofInt 256)) fun q7 =>
  lm_bind (lm_putf 3630 x0 (.ref q7)) fun _ =>
  lm_bind (lm_newa .int (Int32.ofInt 256)) fun q8 =>
  lm_bind (lm_putf 3634 x0 (.ref q8)) fun _ =>
  lm_bind (lm_newa .int (Int32.ofInt 256)) fun q9 =>
  lm_bind (lm_putf 3638 x0 (.ref q9)) fun _ =>
  lm_bind (lm_newa .int (Int32.ofInt 256)) fun q10 =>
  lm_bind (lm_putf 3642 x0 (.ref q10)) fun _ =>
  lm_bind (lm_newa .byte (Int32.ofInt 640)) fun q11 =>
  lm_bind (lm_putf 3646 x0 (.ref q11)) fun _ =>
  lm_bind (lm_newa .byte (Int32.ofInt 128)) fun q12 =>
  lm_bind (lm_putf 3650 x0 (.ref q12)) fun _ =>
  lm_bind (lm_newa .byte (Int32.ofInt 66)) fun q13 =>
  lm_bind (lm_putf 3654 x0 (.ref q13)) fun _ =>
  lm_bind (lm_newa .byte (Int32.ofInt 64)) fun q14 =>
  lm_bind (lm_putf 3658 x0 (.ref q14)) fun _ =>
  lm_bind (lm_newa .byte (Int32.ofInt 64)) fun q15 =>
  lm_bind (lm_putf 3662 x0 (.ref q15)) fun _ =>
  lm_bind (lm_newa .byte (Int32.ofInt 84)) fun q16 =>
  lm_bind (lm_putf 3666 x0 (.ref q16)) fun _ =>
  lm_bind (lm_putf 3602 x0 (.ref x1)) fun _ =>
  B (178, [(0, .ref x0), (2, .long (Int64.ofNat 1)), (4, .int (Int32.ofInt 0))], [])
set_option maxRecDepth 100000 in
theorem lm_e45_0 {sc : lm_H} {d : Nat} {x0 : Nat} {x1 : Nat} {σ : lm_S} {r : Except Nat lm_R × lm_S} (h : lm_q45_0 sc (lm_cal sc d) (lm_rn sc d lm_m45.2.2.2.2.1 (lm_reg lm_m45.2.2.2.2.2)) x0 x1  σ = some r) : lm_rn sc d lm_m45.2.2.2.2.1 (lm_reg lm_m45.2.2.2.2.2) (0, [(0, .ref x0), (1, .ref x1)], []) σ = some r := lm_rn_of h
/-- LatticeSuite$Dsa.<init>, from 178 on -/
noncomputable def lm_q45_178 (sc : lm_H) (A : Nat → List Value → lm_M lm_R) (B : lm_F → lm_M lm_R) (x0 : Nat) (x2 : Int64) (x4 : Int32) : lm_M lm_R :=
  lm_if .ge x4 (Int32.ofInt 256) (lm_ret none) (lm_bind (lm_gR 3606 x0) fun v1 =>
  lm_bind (lm_asI (A 126 [.int x4, .int (Int32.ofInt 8)])) fun v2 =>
  lm_bind (lm_iast v1 v2 (Int64.toInt32 x2)) fun _ =>
  lm_when (¬ (Int64.ofNat 8380417) = 0) inferInstance (B (178, [(0, .ref x0), (2, .long (lm_remL (x2 * (Int64.ofNat 1753)) (Int64.ofNat 8380417))), (4, .int (x4 + Int32.ofInt 1))], [])))
set_option maxRecDepth 100000 in
theorem lm_e45_178 {sc : lm_H} {d : Nat} {x0 : Nat} {x2 : Int64} {x4 : Int32} {σ : lm_S} {r : Except Nat lm_R × lm_S} (h : lm_q45_178 sc (lm_cal sc d) (lm_rn sc d lm_m45.2.2.2.2.1 (lm_reg lm_m45.2.2.2.2.2)) x0 x2 x4  σ = some r) : lm_rn sc d lm_m45.2.2.2.2.1 (lm_reg lm_m45.2.2.2.2.2) (178, [(0, .ref x0), (2, .long x2), (4, .int x4)], []) σ = some r := lm_rn_of h
/-- LatticeSuite$Slh.<init>, from 0 on -/
noncomputable def lm_q46_0 (sc : lm_H) (A : Nat → List Value → lm_M lm_R) (B : lm_F → lm_M lm_R) (x0 : Nat) (x1 : Nat) : lm_M lm_R :=
  lm_bind (lm_newa .byte (Int32.ofInt 32)) fun q1 =>
  lm_bind (lm_putf 4050 x0 (.ref q1)) fun _ =>
  lm_bind (lm_newa .byte (Int32.ofInt 32)) fun q2 =>
  lm_bind (lm_putf 4054 x0 (.ref q2)) fun _ =>
  lm_bind (lm_newa .byte (Int32.ofInt 32)) fun q3 =>
  lm_bind (lm_putf 4058 x0 (.ref q3)) fun _ =>
  lm_bind (lm_newa .byte (Int32.ofInt 64)) fun q4 =>
  lm_bind (lm_putf 4062 x0 (.ref q4)) fun _ =>
  lm_bind (lm_newa .byte (Int32.ofInt 2144)) fun q5 =>
  lm_bind (lm_putf 4066 x0 (.ref q5)) fun _ =>
  lm_bind (lm_newa .byte (Int32.ofInt 480)) fun q6 =>
  lm_bind (lm_putf 4070 x0 (.ref q6)) fun _ =>
  lm_bind (lm_newa .byte (Int32.ofInt 64)) fun q7 =>
  lm_bind (lm_putf 4074 x0 (.ref q7)) fun _ =>
  lm_bind (lm_newa .int (Int32.ofInt 67)) fun q8 =>
  lm_bind (lm_putf 4078 x0 (.ref q8)) fun _ =>
  lm_bind (lm_putf 4002 x0 (.ref x1)) fun _ =>
  lm_bind (lm_gR 802 x1) fun v9 =>
  lm_bind (lm_putf 4006 x0 (.ref v9)) fun _ =>
  lm_bind (lm_gR 802 x1) fun v10 =>
  lm_bind (lm_putf 4010 x0 (.ref v10)) fun _ =>
  lm_ret none
set_option maxRecDepth 100000 in
theorem lm_e46_0 {sc : lm_H} {d : Nat} {x0 : Nat} {x1 : Nat} {σ : lm_S} {r : Except Nat lm_R × lm_S} (h : lm_q46_0 sc (lm_cal sc d) (lm_rn sc d lm_m46.2.2.2.2.1 (lm_reg lm_m46.2.2.2.2.2)) x0 x1  σ = some r) : lm_rn sc d lm_m46.2.2.2.2.1 (lm_reg lm_m46.2.2.2.2.2) (0, [(0, .ref x0), (1, .ref x1)], []) σ = some r := lm_rn_of h
/-- LatticeSuiteModel.constants, from 0 on -/
noncomputable def lm_q47_0 (sc : lm_H) (A : Nat → List Value → lm_M lm_R) (B : lm_F → lm_M lm_R) (x0 : Nat) : lm_M lm_R :=
  B (4, [(0, .ref x0), (1, .int (Int32.ofInt 0)), (2, .int (Int32.ofInt 2))], [])
set_option maxRecDepth 100000 in
theorem lm_e47_0 {sc : lm_H} {d : Nat} {x0 : Nat} {σ : lm_S} {r : Except Nat lm_R × lm_S} (h : lm_q47_0 sc (lm_cal sc d) (lm_rn sc d lm_m47.2.2.2.2.1 (lm_reg lm_m47.2.2.2.2.2)) x0  σ = some r) : lm_rn sc d lm_m47.2.2.2.2.1 (lm_reg lm_m47.2.2.2.2.2) (0, [(0, .ref x0)], []) σ = some r := lm_rn_of h
/-- LatticeSuiteModel.constants, from 4 on -/
noncomputable def lm_q47_4 (sc : lm_H) (A : Nat → List Value → lm_M lm_R) (B : lm_F → lm_M lm_R) (x0 : Nat) (x1 : Int32) (x2 : Int32) : lm_M lm_R :=
  lm_if .ge x1 (Int32.ofInt 80) (B (66, [(0, .ref x0), (2, .int (Int32.ofInt 1)), (3, .int (Int32.ofInt 0)), (4, .int (Int32.ofInt 0))], [])) (lm_bind (lm_asI (A 127 [.int x2])) fun v1 =>
  lm_if .ne v1 0 (lm_if .ge x1 (Int32.ofInt 16) (B (38, [(0, .ref x0), (1, .int x1), (2, .int x2)], [])) (lm_bind (lm_gR 4422 x0) fun v2 =>
  lm_bind (lm_sel [(11, 128)] (some (.ref x0))) fun y3 =>
  lm_bind (lm_asL (A y3 [.ref x0, .int x2, .int (Int32.ofInt 2)])) fun v4 =>
  lm_bind (lm_last v2 x1 v4) fun _ =>
  B (38, [(0, .ref x0), (1, .int x1), (2, .int x2)], []))) (B (53, [(0, .ref x0), (1, .int x1), (2, .int x2)], [])))
set_option maxRecDepth 100000 in
theorem lm_e47_4 {sc : lm_H} {d : Nat} {x0 : Nat} {x1 : Int32} {x2 : Int32} {σ : lm_S} {r : Except Nat lm_R × lm_S} (h : lm_q47_4 sc (lm_cal sc d) (lm_rn sc d lm_m47.2.2.2.2.1 (lm_reg lm_m47.2.2.2.2.2)) x0 x1 x2  σ = some r) : lm_rn sc d lm_m47.2.2.2.2.1 (lm_reg lm_m47.2.2.2.2.2) (4, [(0, .ref x0), (1, .int x1), (2, .int x2)], []) σ = some r := lm_rn_of h
/-- LatticeSuiteModel.constants, from 66 on -/
noncomputable def lm_q47_66 (sc : lm_H) (A : Nat → List Value → lm_M lm_R) (B : lm_F → lm_M lm_R) (x0 : Nat) (x2 : Int32) (x3 : Int32) (x4 : Int32) : lm_M lm_R :=
  lm_if .ge x4 (Int32.ofInt 24) (B (122, [(0, .ref x0), (4, .int (Int32.ofInt 0))], [])) (lm_bind (lm_gR 4446 x0) fun v1 =>
  lm_when (¬ (Int32.ofInt 2) = 0) inferInstance (lm_when (¬ (Int32.ofInt 64) = 0) inferInstance (lm_bind (lm_iast v1 (x2 + ((Int32.ofInt 5) * x3)) (lm_rem (((x4 + (Int32.ofInt 1)) * (x4 + (Int32.ofInt 2))) / (Int32.ofInt 2)) (Int32.ofInt 64))) fun _ =>
  lm_when (¬ (Int32.ofInt 5) = 0) inferInstance (B (66, [(0, .ref x0), (2, .int x3), (3, .int (lm_rem (((Int32.ofInt 2) * x2) + ((Int32.ofInt 3) * x3)) (Int32.ofInt 5))), (4, .int (x4 + Int32.ofInt 1))], [])))))
set_option maxRecDepth 100000 in
theorem lm_e47_66 {sc : lm_H} {d : Nat} {x0 : Nat} {x2 : Int32} {x3 : Int32} {x4 : Int32} {σ : lm_S} {r : Except Nat lm_R × lm_S} (h : lm_q47_66 sc (lm_cal sc d) (lm_rn sc d lm_m47.2.2.2.2.1 (lm_reg lm_m47.2.2.2.2.2)) x0 x2 x3 x4  σ = some r) : lm_rn sc d lm_m47.2.2.2.2.1 (lm_reg lm_m47.2.2.2.2.2) (66, [(0, .ref x0), (2, .int x2), (3, .int x3), (4, .int x4)], []) σ = some r := lm_rn_of h
/-- LatticeSuiteModel.constants, from 38 on -/
noncomputable def lm_q47_38 (sc : lm_H) (A : Nat → List Value → lm_M lm_R) (B : lm_F → lm_M lm_R) (x0 : Nat) (x1 : Int32) (x2 : Int32) : lm_M lm_R :=
  lm_bind (lm_gR 4426 x0) fun v1 =>
  lm_bind (lm_sel [(11, 128)] (some (.ref x0))) fun y2 =>
  lm_bind (lm_asL (A y2 [.ref x0, .int x2, .int (Int32.ofInt 3)])) fun v3 =>
  lm_bind (lm_last v1 x1 v3) fun _ =>
  B (53, [(0, .ref x0), (1, .int (x1 + Int32.ofInt 1)), (2, .int x2)], [])
set_option maxRecDepth 100000 in
theorem lm_e47_38 {sc : lm_H} {d : Nat} {x0 : Nat} {x1 : Int32} {x2 : Int32} {σ : lm_S} {r : Except Nat lm_R × lm_S} (h : lm_q47_38 sc (lm_cal sc d) (lm_rn sc d lm_m47.2.2.2.2.1 (lm_reg lm_m47.2.2.2.2.2)) x0 x1 x2  σ = some r) : lm_rn sc d lm_m47.2.2.2.2.1 (lm_reg lm_m47.2.2.2.2.2) (38, [(0, .ref x0), (1, .int x1), (2, .int x2)], []) σ = some r := lm_rn_of h
/-- LatticeSuiteModel.constants, from 53 on -/
noncomputable def lm_q47_53 (sc : lm_H) (A : Nat → List Value → lm_M lm_R) (B : lm_F → lm_M lm_R) (x0 : Nat) (x1 : Int32) (x2 : Int32) : lm_M lm_R :=
  B (4, [(0, .ref x0), (1, .int x1), (2, .int (x2 + Int32.ofInt 1))], [])
set_option maxRecDepth 100000 in
theorem lm_e47_53 {sc : lm_H} {d : Nat} {x0 : Nat} {x1 : Int32} {x2 : Int32} {σ : lm_S} {r : Except Nat lm_R × lm_S} (h : lm_q47_53 sc (lm_cal sc d) (lm_rn sc d lm_m47.2.2.2.2.1 (lm_reg lm_m47.2.2.2.2.2)) x0 x1 x2  σ = some r) : lm_rn sc d lm_m47.2.2.2.2.1 (lm_reg lm_m47.2.2.2.2.2) (53, [(0, .ref x0), (1, .int x1), (2, .int x2)], []) σ = some r := lm_rn_of h
/-- LatticeSuiteModel.constants, from 122 on -/
noncomputable def lm_q47_122 (sc : lm_H) (A : Nat → List Value → lm_M lm_R) (B : lm_F → lm_M lm_R) (x0 : Nat) (x4 : Int32) : lm_M lm_R :=
  lm_if .ge x4 (Int32.ofInt 24) (lm_bind (lm_gR 4430 x0) fun v1 =>
  lm_bind (lm_sel [(11, 130)] (some (.ref x0))) fun y2 =>
  lm_bind (lm_asV (A y2 [.ref x0, .ref v1, .int (Int32.ofInt 50), .int (Int32.ofInt 52)])) fun _ =>
  lm_bind (lm_gR 4434 x0) fun v3 =>
  lm_bind (lm_sel [(11, 130)] (some (.ref x0))) fun y4 =>
  lm_bind (lm_asV (A y4 [.ref x0, .ref v3, .int (Int32.ofInt 53), .int (Int32.ofInt 54)])) fun _ =>
  lm_ret none) (B (132, [(0, .ref x0), (4, .int x4), (5, .int (Int32.ofInt 0))], []))
set_option maxRecDepth 100000 in
theorem lm_e47_122 {sc : lm_H} {d : Nat} {x0 : Nat} {x4 : Int32} {σ : lm_S} {r : Except Nat lm_R × lm_S} (h : lm_q47_122 sc (lm_cal sc d) (lm_rn sc d lm_m47.2.2.2.2.1 (lm_reg lm_m47.2.2.2.2.2)) x0 x4  σ = some r) : lm_rn sc d lm_m47.2.2.2.2.1 (lm_reg lm_m47.2.2.2.2.2) (122, [(0, .ref x0), (4, .int x4)], []) σ = some r := lm_rn_of h
/-- LatticeSuiteModel.constants, from 132 on -/
noncomputable def lm_q47_132 (sc : lm_H) (A : Nat → List Value → lm_M lm_R) (B : lm_F → lm_M lm_R) (x0 : Nat) (x4 : Int32) (x5 : Int32) : lm_M lm_R :=
  lm_if .gt x5 (Int32.ofInt 6) (B (122, [(0, .ref x0), (4, .int (x4 + Int32.ofInt 1))], [])) (lm_bind (lm_asI (A 129 [.int (x5 + ((Int32.ofInt 7) * x4))])) fun v1 =>
  lm_if .ne v1 (Int32.ofInt 1) (B (172, [(0, .ref x0), (4, .int x4), (5, .int x5)], [])) (lm_bind (lm_gR 4450 x0) fun v2 =>
  lm_bind (lm_lald sc v2 x4) fun v3 =>
  lm_bind (lm_last v2 x4 (v3 ||| ((Int64.ofNat 1) <<< ((Int32.toInt64 (((Int32.ofInt 1) <<< (x5 &&& 31)) - (Int32.ofInt 1))) &&& 63)))) fun _ =>
  B (172, [(0, .ref x0), (4, .int x4), (5, .int x5)], [])))
set_option maxRecDepth 100000 in
theorem lm_e47_132 {sc : lm_H} {d : Nat} {x0 : Nat} {x4 : Int32} {x5 : Int32} {σ : lm_S} {r : Except Nat lm_R × lm_S} (h : lm_q47_132 sc (lm_cal sc d) (lm_rn sc d lm_m47.2.2.2.2.1 (lm_reg lm_m47.2.2.2.2.2)) x0 x4 x5  σ = some r) : lm_rn sc d lm_m47.2.2.2.2.1 (lm_reg lm_m47.2.2.2.2.2) (132, [(0, .ref x0), (4, .int x4), (5, .int x5)], []) σ = some r := lm_rn_of h
/-- LatticeSuiteModel.constants, from 172 on -/
noncomputable def lm_q47_172 (sc : lm_H) (A : Nat → List Value → lm_M lm_R) (B : lm_F → lm_M lm_R) (x0 : Nat) (x4 : Int32) (x5 : Int32) : lm_M lm_R :=
  B (132, [(0, .ref x0), (4, .int x4), (5, .int (x5 + Int32.ofInt 1))], [])
set_option maxRecDepth 100000 in
theorem lm_e47_172 {sc : lm_H} {d : Nat} {x0 : Nat} {x4 : Int32} {x5 : Int32} {σ : lm_S} {r : Except Nat lm_R × lm_S} (h : lm_q47_172 sc (lm_cal sc d) (lm_rn sc d lm_m47.2.2.2.2.1 (lm_reg lm_m47.2.2.2.2.2)) x0 x4 x5  σ = some r) : lm_rn sc d lm_m47.2.2.2.2.1 (lm_reg lm_m47.2.2.2.2.2) (172, [(0, .ref x0), (4, .int x4), (5, .int x5)], []) σ = some r := lm_rn_of h
/-- LatticeSuite.feed, from 0 on -/
noncomputable def lm_q48_0 (sc : lm_H) (A : Nat → List Value → lm_M lm_R) (B : lm_F → lm_M lm_R) (x0 : Nat) (x1 : Int32) (x2 : Int32) (x3 : Int32) (x4 : Int32) (x5 : Int32) : lm_M lm_R :=
  lm_bind (lm_gR 6 x0) fun v1 =>
  lm_bind (lm_gI 404 v1) fun v2 =>
  lm_if .le (v2 + (Int32.ofInt 20)) (Int32.ofInt 65536) (lm_bind (lm_gR 6 x0) fun v3 =>
  lm_bind (lm_gR 402 v3) fun v4 =>
  lm_bind (lm_gR 6 x0) fun v5 =>
  lm_bind (lm_gI 404 v5) fun v6 =>
  lm_bind (lm_asV (A 131 [.int x1, .ref v4, .int v6])) fun _ =>
  lm_bind (lm_gR 6 x0) fun v7 =>
  lm_bind (lm_gR 402 v7) fun v8 =>
  lm_bind (lm_gR 6 x0) fun v9 =>
  lm_bind (lm_gI 404 v9) fun v10 =>
  lm_bind (lm_asV (A 131 [.int x2, .ref v8, .int (v10 + (Int32.ofInt 4))])) fun _ =>
  lm_bind (lm_gR 6 x0) fun v11 =>
  lm_bind (lm_gR 402 v11) fun v12 =>
  lm_bind (lm_gR 6 x0) fun v13 =>
  lm_bind (lm_gI 404 v13) fun v14 =>
  lm_bind (lm_asV (A 131 [.int x3, .ref v12, .int (v14 + (Int32.ofInt 8))])) fun _ =>
  lm_bind (lm_gR 6 x0) fun v15 =>
  lm_bind (lm_gR 402 v15) fun v16 =>
  lm_bind (lm_gR 6 x0) fun v17 =>
  lm_bind (lm_gI 404 v17) fun v18 =>
  lm_bind (lm_asV (A 131 [.int x4, .ref v16, .int (v18 + (Int32.ofInt 12))])) fun _ =>
  lm_bind (lm_gR 6 x0) fun v19 =>
  lm_bind (lm_gR 402 v19) fun v20 =>
  lm_bind (lm_gR 6 x0) fun v21 =>
  lm_bind (lm_gI 404 v21) fun v22 =>
  lm_bind (lm_asV (A 131 [.int x5, .ref v20, .int (v22 + (Int32.ofInt 16))])) fun _ =>
  lm_bind (lm_gR 6 x0) fun v23 =>
  lm_bind (lm_gI 404 v23) fun v24 =>
  lm_bind (lm_putf 404 v23 (.int (v24 + (Int32.ofInt 20)))) fun _ =>
  lm_bind (lm_gR 6 x0) fun v25 =>
  lm_bind (lm_gI 404 v25) fun v26 =>
  lm_ret (some (.int v26))) (lm_thr 12)
set_option maxRecDepth 100000 in
theorem lm_e48_0 {sc : lm_H} {d : Nat} {x0 : Nat} {x1 : Int32} {x2 : Int32} {x3 : Int32} {x4 : Int32} {x5 : Int32} {σ : lm_S} {r : Except Nat lm_R × lm_S} (h : lm_q48_0 sc (lm_cal sc d) (lm_rn sc d lm_m48.2.2.2.2.1 (lm_reg lm_m48.2.2.2.2.2)) x0 x1 x2 x3 x4 x5  σ = some r) : lm_rn sc d lm_m48.2.2.2.2.1 (lm_reg lm_m48.2.2.2.2.2) (0, [(0, .ref x0), (1, .int x1), (2, .int x2), (3, .int x3), (4, .int x4), (5, .int x5)], []) σ = some r := lm_rn_of h
/-- LatticeSuiteModel.good, from 0 on -/
noncomputable def lm_q49_0 (sc : lm_H) (A : Nat → List Value → lm_M lm_R) (B : lm_F → lm_M lm_R) (x0 : Nat) (x1 : Int32) (x2 : Int32) : lm_M lm_R :=
  lm_if .eq x1 0 (lm_bind (lm_putf 4416 x0 (.int x2)) fun _ =>
  lm_when (x1 = 0 ∨ x1 = 1) inferInstance (lm_ret (some (.int x1)))) (lm_bind (lm_putf 4416 x0 (.int (Int32.ofInt 0))) fun _ =>
  lm_when (x1 = 0 ∨ x1 = 1) inferInstance (lm_ret (some (.int x1))))
set_option maxRecDepth 100000 in
theorem lm_e49_0 {sc : lm_H} {d : Nat} {x0 : Nat} {x1 : Int32} {x2 : Int32} {σ : lm_S} {r : Except Nat lm_R × lm_S} (h : lm_q49_0 sc (lm_cal sc d) (lm_rn sc d lm_m49.2.2.2.2.1 (lm_reg lm_m49.2.2.2.2.2)) x0 x1 x2  σ = some r) : lm_rn sc d lm_m49.2.2.2.2.1 (lm_reg lm_m49.2.2.2.2.2) (0, [(0, .ref x0), (1, .int x1), (2, .int x2)], []) σ = some r := lm_rn_of h
/-- LatticeSuiteModel.word, from 0 on -/
noncomputable def lm_q50_0 (sc : lm_H) (A : Nat → List Value → lm_M lm_R) (B : lm_F → lm_M lm_R) (x0 : Nat) (x1 : Int32) : lm_M lm_R :=
  B (2, [(0, .ref x0), (1, .int x1), (2, .int (Int32.ofInt 0))], [])
set_option maxRecDepth 100000 in
theorem lm_e50_0 {sc : lm_H} {d : Nat} {x0 : Nat} {x1 : Int32} {σ : lm_S} {r : Except Nat lm_R × lm_S} (h : lm_q50_0 sc (lm_cal sc d) (lm_rn sc d lm_m50.2.2.2.2.1 (lm_reg lm_m50.2.2.2.2.2)) x0 x1  σ = some r) : lm_rn sc d lm_m50.2.2.2.2.1 (lm_reg lm_m50.2.2.2.2.2) (0, [(0, .ref x0), (1, .int x1)], []) σ = some r := lm_rn_of h
/-- LatticeSuiteModel.word, from 2 on -/
noncomputable def lm_q50_2 (sc : lm_H) (A : Nat → List Value → lm_M lm_R) (B : lm_F → lm_M lm_R) (x0 : Nat) (x1 : Int32) (x2 : Int32) : lm_M lm_R :=
  lm_if .ge x2 (Int32.ofInt 4) (lm_bind (lm_gI 4412 x0) fun v1 =>
  lm_bind (lm_putf 4412 x0 (.int (v1 + (Int32.ofInt 4)))) fun _ =>
  lm_ret none) (lm_bind (lm_gR 4402 x0) fun v2 =>
  lm_bind (lm_gI 4412 x0) fun v3 =>
  lm_bind (lm_bast v2 (v3 + x2) (lm_b8 (x1 >>> (((Int32.ofInt 24) - ((Int32.ofInt 8) * x2)) &&& 31)))) fun _ =>
  B (2, [(0, .ref x0), (1, .int x1), (2, .int (x2 + Int32.ofInt 1))], []))
set_option maxRecDepth 100000 in
theorem lm_e50_2 {sc : lm_H} {d : Nat} {x0 : Nat} {x1 : Int32} {x2 : Int32} {σ : lm_S} {r : Except Nat lm_R × lm_S} (h : lm_q50_2 sc (lm_cal sc d) (lm_rn sc d lm_m50.2.2.2.2.1 (lm_reg lm_m50.2.2.2.2.2)) x0 x1 x2  σ = some r) : lm_rn sc d lm_m50.2.2.2.2.1 (lm_reg lm_m50.2.2.2.2.2) (2, [(0, .ref x0), (1, .int x1), (2, .int x2)], []) σ = some r := lm_rn_of h
/-- LatticeSuite.end, from 0 on -/
noncomputable def lm_q51_0 (sc : lm_H) (A : Nat → List Value → lm_M lm_R) (B : lm_F → lm_M lm_R) (x0 : Nat) (x1 : Int32) (x2 : Int32) : lm_M lm_R :=
  lm_bind (lm_asV (A 132 [.int x1, .int (Int32.ofInt 0), .int (Int32.ofInt 7)])) fun _ =>
  lm_bind (lm_asV (A 132 [.int x2, .int (Int32.ofInt 0), .int (Int32.ofInt 65536)])) fun _ =>
  lm_bind (lm_gR 6 x0) fun v1 =>
  lm_bind (lm_gI 404 v1) fun v2 =>
  lm_if .ge v2 x2 (lm_bind (lm_gR 2 x0) fun v3 =>
  lm_bind (lm_aaR sc v3 x1) fun v4 =>
  lm_bind (lm_gR 6 x0) fun v5 =>
  lm_bind (lm_gR 402 v5) fun v6 =>
  lm_bind (lm_sel [(1, 133)] (some (.ref v4))) fun y7 =>
  lm_bind (lm_asV (A y7 [.ref v4, .ref v6, .int x2])) fun _ =>
  lm_bind (lm_gR 6 x0) fun v8 =>
  lm_bind (lm_putf 404 v8 (.int (Int32.ofInt 0))) fun _ =>
  lm_ret (some (.int x2))) (lm_thr 12)
set_option maxRecDepth 100000 in
theorem lm_e51_0 {sc : lm_H} {d : Nat} {x0 : Nat} {x1 : Int32} {x2 : Int32} {σ : lm_S} {r : Except Nat lm_R × lm_S} (h : lm_q51_0 sc (lm_cal sc d) (lm_rn sc d lm_m51.2.2.2.2.1 (lm_reg lm_m51.2.2.2.2.2)) x0 x1 x2  σ = some r) : lm_rn sc d lm_m51.2.2.2.2.1 (lm_reg lm_m51.2.2.2.2.2) (0, [(0, .ref x0), (1, .int x1), (2, .int x2)], []) σ = some r := lm_rn_of h
/-- LatticeSuiteModel.in, from 0 on -/
noncomputable def lm_q52_0 (sc : lm_H) (A : Nat → List Value → lm_M lm_R) (B : lm_F → lm_M lm_R) (x0 : Int32) (x1 : Int32) (x2 : Int32) : lm_M lm_R :=
  lm_if .lt x0 x1 (lm_when ((Int32.ofInt 0) = 0 ∨ (Int32.ofInt 0) = 1) inferInstance (lm_ret (some (.int (Int32.ofInt 0))))) (lm_if .gt x0 x2 (lm_when ((Int32.ofInt 0) = 0 ∨ (Int32.ofInt 0) = 1) inferInstance (lm_ret (some (.int (Int32.ofInt 0))))) (lm_when ((Int32.ofInt 1) = 0 ∨ (Int32.ofInt 1) = 1) inferInstance (lm_ret (some (.int (Int32.ofInt 1))))))
set_option maxRecDepth 100000 in
theorem lm_e52_0 {sc : lm_H} {d : Nat} {x0 : Int32} {x1 : Int32} {x2 : Int32} {σ : lm_S} {r : Except Nat lm_R × lm_S} (h : lm_q52_0 sc (lm_cal sc d) (lm_rn sc d lm_m52.2.2.2.2.1 (lm_reg lm_m52.2.2.2.2.2)) x0 x1 x2  σ = some r) : lm_rn sc d lm_m52.2.2.2.2.1 (lm_reg lm_m52.2.2.2.2.2) (0, [(0, .int x0), (1, .int x1), (2, .int x2)], []) σ = some r := lm_rn_of h
/-- LatticeSuite.copy, from 0 on -/
noncomputable def lm_q53_0 (sc : lm_H) (A : Nat → List Value → lm_M lm_R) (B : lm_F → lm_M lm_R) (x0 : Nat) (x1 : Int32) (x2 : Int32) : lm_M lm_R :=
  lm_bind (lm_asV (A 132 [.int x1, .int (Int32.ofInt 0), .int (Int32.ofInt 7)])) fun _ =>
  lm_bind (lm_asV (A 132 [.int x2, .int (Int32.ofInt 0), .int (Int32.ofInt 7)])) fun _ =>
  lm_bind (lm_gR 2 x0) fun v1 =>
  lm_bind (lm_aaR sc v1 x2) fun v2 =>
  lm_bind (lm_gR 2 x0) fun v3 =>
  lm_bind (lm_aaR sc v3 x1) fun v4 =>
  lm_bind (lm_gR 402 v4) fun v5 =>
  lm_bind (lm_gR 2 x0) fun v6 =>
  lm_bind (lm_aaR sc v6 x1) fun v7 =>
  lm_bind (lm_gI 404 v7) fun v8 =>
  lm_bind (lm_sel [(1, 133)] (some (.ref v2))) fun y9 =>
  lm_bind (lm_asV (A y9 [.ref v2, .ref v5, .int v8])) fun _ =>
  lm_bind (lm_gR 2 x0) fun v10 =>
  lm_bind (lm_aaR sc v10 x2) fun v11 =>
  lm_bind (lm_gI 404 v11) fun v12 =>
  lm_ret (some (.int v12))
set_option maxRecDepth 100000 in
theorem lm_e53_0 {sc : lm_H} {d : Nat} {x0 : Nat} {x1 : Int32} {x2 : Int32} {σ : lm_S} {r : Except Nat lm_R × lm_S} (h : lm_q53_0 sc (lm_cal sc d) (lm_rn sc d lm_m53.2.2.2.2.1 (lm_reg lm_m53.2.2.2.2.2)) x0 x1 x2  σ = some r) : lm_rn sc d lm_m53.2.2.2.2.1 (lm_reg lm_m53.2.2.2.2.2) (0, [(0, .ref x0), (1, .int x1), (2, .int x2)], []) σ = some r := lm_rn_of h
/-- LatticeSuite.resize, from 0 on -/
noncomputable def lm_q54_0 (sc : lm_H) (A : Nat → List Value → lm_M lm_R) (B : lm_F → lm_M lm_R) (x0 : Nat) (x1 : Int32) (x2 : Int32) : lm_M lm_R :=
  lm_bind (lm_asV (A 132 [.int x1, .int (Int32.ofInt 0), .int (Int32.ofInt 7)])) fun _ =>
  lm_bind (lm_asV (A 132 [.int x2, .int (Int32.ofInt 0), .int (Int32.ofInt 65536)])) fun _ =>
  lm_bind (lm_gR 2 x0) fun v1 =>
  lm_bind (lm_aaR sc v1 x1) fun v2 =>
  lm_bind (lm_gI 404 v2) fun v3 =>
  lm_if .le x2 v3 (B (44, [(2, .int x2), (3, .ref v2), (4, .int v3)], [])) (lm_bind (lm_gR 402 v2) fun v4 =>
  lm_bind (lm_asV (A 134 [.ref v4, .int v3, .int x2, .int (Int32.ofInt 0)])) fun _ =>
  B (44, [(2, .int x2), (3, .ref v2), (4, .int v3)], []))
set_option maxRecDepth 100000 in
theorem lm_e54_0 {sc : lm_H} {d : Nat} {x0 : Nat} {x1 : Int32} {x2 : Int32} {σ : lm_S} {r : Except Nat lm_R × lm_S} (h : lm_q54_0 sc (lm_cal sc d) (lm_rn sc d lm_m54.2.2.2.2.1 (lm_reg lm_m54.2.2.2.2.2)) x0 x1 x2  σ = some r) : lm_rn sc d lm_m54.2.2.2.2.1 (lm_reg lm_m54.2.2.2.2.2) (0, [(0, .ref x0), (1, .int x1), (2, .int x2)], []) σ = some r := lm_rn_of h
/-- LatticeSuite.resize, from 44 on -/
noncomputable def lm_q54_44 (sc : lm_H) (A : Nat → List Value → lm_M lm_R) (B : lm_F → lm_M lm_R) (x2 : Int32) (x3 : Nat) (x4 : Int32) : lm_M lm_R :=
  lm_bind (lm_putf 404 x3 (.int x2)) fun _ =>
  lm_ret (some (.int x4))
set_option maxRecDepth 100000 in
theorem lm_e54_44 {sc : lm_H} {d : Nat} {x2 : Int32} {x3 : Nat} {x4 : Int32} {σ : lm_S} {r : Except Nat lm_R × lm_S} (h : lm_q54_44 sc (lm_cal sc d) (lm_rn sc d lm_m54.2.2.2.2.1 (lm_reg lm_m54.2.2.2.2.2)) x2 x3 x4  σ = some r) : lm_rn sc d lm_m54.2.2.2.2.1 (lm_reg lm_m54.2.2.2.2.2) (44, [(2, .int x2), (3, .ref x3), (4, .int x4)], []) σ = some r := lm_rn_of h
/-- LatticeSuite.alter, from 0 on -/
noncomputable def lm_q55_0 (sc : lm_H) (A : Nat → List Value → lm_M lm_R) (B : lm_F → lm_M lm_R) (x0 : Nat) (x1 : Int32) (x2 : Int32) (x3 : Int32) : lm_M lm_R :=
  lm_bind (lm_asV (A 132 [.int x1, .int (Int32.ofInt 0), .int (Int32.ofInt 7)])) fun _ =>
  lm_bind (lm_asV (A 132 [.int x3, .int (Int32.ofInt 0), .int (Int32.ofInt 255)])) fun _ =>
  lm_bind (lm_gR 2 x0) fun v1 =>
  lm_bind (lm_aaR sc v1 x1) fun v2 =>
  lm_bind (lm_asV (A 135 [.ref v2, .int x2])) fun _ =>
  lm_bind (lm_gR 402 v2) fun v3 =>
  lm_bind (lm_bald sc v3 x2) fun v4 =>
  lm_bind (lm_bast v3 x2 (lm_b8 (v4 ^^^ (lm_b8 x3)))) fun _ =>
  lm_bind (lm_gR 402 v2) fun v5 =>
  lm_bind (lm_bald sc v5 x2) fun v6 =>
  lm_ret (some (.int (v6 &&& (Int32.ofInt 255))))
set_option maxRecDepth 100000 in
theorem lm_e55_0 {sc : lm_H} {d : Nat} {x0 : Nat} {x1 : Int32} {x2 : Int32} {x3 : Int32} {σ : lm_S} {r : Except Nat lm_R × lm_S} (h : lm_q55_0 sc (lm_cal sc d) (lm_rn sc d lm_m55.2.2.2.2.1 (lm_reg lm_m55.2.2.2.2.2)) x0 x1 x2 x3  σ = some r) : lm_rn sc d lm_m55.2.2.2.2.1 (lm_reg lm_m55.2.2.2.2.2) (0, [(0, .ref x0), (1, .int x1), (2, .int x2), (3, .int x3)], []) σ = some r := lm_rn_of h
/-- LatticeSuite.length, from 0 on -/
noncomputable def lm_q56_0 (sc : lm_H) (A : Nat → List Value → lm_M lm_R) (B : lm_F → lm_M lm_R) (x0 : Nat) (x1 : Int32) : lm_M lm_R :=
  lm_bind (lm_asV (A 132 [.int x1, .int (Int32.ofInt 0), .int (Int32.ofInt 7)])) fun _ =>
  lm_bind (lm_gR 2 x0) fun v1 =>
  lm_bind (lm_aaR sc v1 x1) fun v2 =>
  lm_bind (lm_gI 404 v2) fun v3 =>
  lm_ret (some (.int v3))
set_option maxRecDepth 100000 in
theorem lm_e56_0 {sc : lm_H} {d : Nat} {x0 : Nat} {x1 : Int32} {σ : lm_S} {r : Except Nat lm_R × lm_S} (h : lm_q56_0 sc (lm_cal sc d) (lm_rn sc d lm_m56.2.2.2.2.1 (lm_reg lm_m56.2.2.2.2.2)) x0 x1  σ = some r) : lm_rn sc d lm_m56.2.2.2.2.1 (lm_reg lm_m56.2.2.2.2.2) (0, [(0, .ref x0), (1, .int x1)], []) σ = some r := lm_rn_of h
/-- LatticeSuite.word, from 0 on -/
noncomputable def lm_q57_0 (sc : lm_H) (A : Nat → List Value → lm_M lm_R) (B : lm_F → lm_M lm_R) (x0 : Nat) (x1 : Int32) (x2 : Int32) : lm_M lm_R :=
  lm_bind (lm_asV (A 132 [.int x1, .int (Int32.ofInt 0), .int (Int32.ofInt 7)])) fun _ =>
  lm_bind (lm_gR 2 x0) fun v1 =>
  lm_bind (lm_aaR sc v1 x1) fun v2 =>
  lm_bind (lm_asV (A 135 [.ref v2, .int x2])) fun _ =>
  B (25, [(2, .int x2), (3, .ref v2), (4, .long (Int64.ofNat 0)), (6, .int x2)], [])
set_option maxRecDepth 100000 in
theorem lm_e57_0 {sc : lm_H} {d : Nat} {x0 : Nat} {x1 : Int32} {x2 : Int32} {σ : lm_S} {r : Except Nat lm_R × lm_S} (h : lm_q57_0 sc (lm_cal sc d) (lm_rn sc d lm_m57.2.2.2.2.1 (lm_reg lm_m57.2.2.2.2.2)) x0 x1 x2  σ = some r) : lm_rn sc d lm_m57.2.2.2.2.1 (lm_reg lm_m57.2.2.2.2.2) (0, [(0, .ref x0), (1, .int x1), (2, .int x2)], []) σ = some r := lm_rn_of h
/-- LatticeSuite.word, from 25 on -/
noncomputable def lm_q57_25 (sc : lm_H) (A : Nat → List Value → lm_M lm_R) (B : lm_F → lm_M lm_R) (x2 : Int32) (x3 : Nat) (x4 : Int64) (x6 : Int32) : lm_M lm_R :=
  lm_if .ge x6 (x2 + (Int32.ofInt 8)) (lm_ret (some (.long x4))) (lm_bind (lm_gI 404 x3) fun v1 =>
  lm_if .ge x6 v1 (B (63, [(2, .int x2), (3, .ref x3), (6, .int x6)], [.int (Int32.ofInt 0), .long (x4 <<< ((Int32.toInt64 (Int32.ofInt 8)) &&& 63))])) (lm_bind (lm_gR 402 x3) fun v2 =>
  lm_bind (lm_bald sc v2 x6) fun v3 =>
  B (63, [(2, .int x2), (3, .ref x3), (6, .int x6)], [.int (v3 &&& (Int32.ofInt 255)), .long (x4 <<< ((Int32.toInt64 (Int32.ofInt 8)) &&& 63))])))
set_option maxRecDepth 100000 in
theorem lm_e57_25 {sc : lm_H} {d : Nat} {x2 : Int32} {x3 : Nat} {x4 : Int64} {x6 : Int32} {σ : lm_S} {r : Except Nat lm_R × lm_S} (h : lm_q57_25 sc (lm_cal sc d) (lm_rn sc d lm_m57.2.2.2.2.1 (lm_reg lm_m57.2.2.2.2.2)) x2 x3 x4 x6  σ = some r) : lm_rn sc d lm_m57.2.2.2.2.1 (lm_reg lm_m57.2.2.2.2.2) (25, [(2, .int x2), (3, .ref x3), (4, .long x4), (6, .int x6)], []) σ = some r := lm_rn_of h
/-- LatticeSuite.word, from 63 on -/
noncomputable def lm_q57_63 (sc : lm_H) (A : Nat → List Value → lm_M lm_R) (B : lm_F → lm_M lm_R) (x2 : Int32) (x3 : Nat) (x6 : Int32) (s0 : Int32) (s1 : Int64) : lm_M lm_R :=
  B (25, [(2, .int x2), (3, .ref x3), (4, .long (s1 ||| (Int32.toInt64 s0))), (6, .int (x6 + Int32.ofInt 1))], [])
set_option maxRecDepth 100000 in
theorem lm_e57_63 {sc : lm_H} {d : Nat} {x2 : Int32} {x3 : Nat} {x6 : Int32} {s0 : Int32} {s1 : Int64} {σ : lm_S} {r : Except Nat lm_R × lm_S} (h : lm_q57_63 sc (lm_cal sc d) (lm_rn sc d lm_m57.2.2.2.2.1 (lm_reg lm_m57.2.2.2.2.2)) x2 x3 x6 s0 s1 σ = some r) : lm_rn sc d lm_m57.2.2.2.2.1 (lm_reg lm_m57.2.2.2.2.2) (63, [(2, .int x2), (3, .ref x3), (6, .int x6)], [.int s0, .long s1]) σ = some r := lm_rn_of h
/-- LatticeSuite.same, from 0 on -/
noncomputable def lm_q58_0 (sc : lm_H) (A : Nat → List Value → lm_M lm_R) (B : lm_F → lm_M lm_R) (x0 : Nat) (x1 : Int32) (x2 : Int32) : lm_M lm_R :=
  lm_bind (lm_asV (A 132 [.int x1, .int (Int32.ofInt 0), .int (Int32.ofInt 7)])) fun _ =>
  lm_bind (lm_asV (A 132 [.int x2, .int (Int32.ofInt 0), .int (Int32.ofInt 7)])) fun _ =>
  lm_bind (lm_gR 2 x0) fun v1 =>
  lm_bind (lm_aaR sc v1 x1) fun v2 =>
  lm_bind (lm_gI 404 v2) fun v3 =>
  lm_bind (lm_gR 2 x0) fun v4 =>
  lm_bind (lm_aaR sc v4 x2) fun v5 =>
  lm_bind (lm_gI 404 v5) fun v6 =>
  lm_if .ne v3 v6 (lm_when ((Int32.ofInt 0) = 0 ∨ (Int32.ofInt 0) = 1) inferInstance (lm_ret (some (.int (Int32.ofInt 0))))) (lm_bind (lm_gR 2 x0) fun v7 =>
  lm_bind (lm_aaR sc v7 x1) fun v8 =>
  lm_bind (lm_gR 402 v8) fun v9 =>
  lm_bind (lm_gR 2 x0) fun v10 =>
  lm_bind (lm_aaR sc v10 x2) fun v11 =>
  lm_bind (lm_gR 402 v11) fun v12 =>
  lm_bind (lm_gR 2 x0) fun v13 =>
  lm_bind (lm_aaR sc v13 x1) fun v14 =>
  lm_bind (lm_gI 404 v14) fun v15 =>
  lm_bind (lm_asI (A 136 [.ref v9, .int (Int32.ofInt 0), .ref v12, .int (Int32.ofInt 0), .int v15])) fun v16 =>
  lm_if .eq v16 0 (lm_when ((Int32.ofInt 0) = 0 ∨ (Int32.ofInt 0) = 1) inferInstance (lm_ret (some (.int (Int32.ofInt 0))))) (lm_when ((Int32.ofInt 1) = 0 ∨ (Int32.ofInt 1) = 1) inferInstance (lm_ret (some (.int (Int32.ofInt 1))))))
set_option maxRecDepth 100000 in
theorem lm_e58_0 {sc : lm_H} {d : Nat} {x0 : Nat} {x1 : Int32} {x2 : Int32} {σ : lm_S} {r : Except Nat lm_R × lm_S} (h : lm_q58_0 sc (lm_cal sc d) (lm_rn sc d lm_m58.2.2.2.2.1 (lm_reg lm_m58.2.2.2.2.2)) x0 x1 x2  σ = some r) : lm_rn sc d lm_m58.2.2.2.2.1 (lm_reg lm_m58.2.2.2.2.2) (0, [(0, .ref x0), (1, .int x1), (2, .int x2)], []) σ = some r := lm_rn_of h
/-- LatticeSuite.digest, from 0 on -/
noncomputable def lm_q59_0 (sc : lm_H) (A : Nat → List Value → lm_M lm_R) (B : lm_F → lm_M lm_R) (x0 : Nat) (x1 : Int32) (x2 : Int32) : lm_M lm_R :=
  lm_bind (lm_asV (A 132 [.int x1, .int (Int32.ofInt 1), .int (Int32.ofInt 16)])) fun _ =>
  lm_bind (lm_asV (A 132 [.int x2, .int (Int32.ofInt 0), .int (Int32.ofInt 65536)])) fun _ =>
  lm_bind (lm_asI (A 137 [.int x1])) fun v1 =>
  lm_if .eq x1 (Int32.ofInt 11) (B (37, [(0, .ref x0), (1, .int x1), (2, .int x2), (3, .int v1)], [])) (lm_if .eq x1 (Int32.ofInt 12) (B (37, [(0, .ref x0), (1, .int x1), (2, .int x2), (3, .int v1)], [])) (lm_if .lt x1 (Int32.ofInt 15) (B (42, [(0, .ref x0), (1, .int x1), (2, .int x2), (3, .int v1)], [.int (Int32.ofInt 0)])) (B (37, [(0, .ref x0), (1, .int x1), (2, .int x2), (3, .int v1)], []))))
set_option maxRecDepth 100000 in
theorem lm_e59_0 {sc : lm_H} {d : Nat} {x0 : Nat} {x1 : Int32} {x2 : Int32} {σ : lm_S} {r : Except Nat lm_R × lm_S} (h : lm_q59_0 sc (lm_cal sc d) (lm_rn sc d lm_m59.2.2.2.2.1 (lm_reg lm_m59.2.2.2.2.2)) x0 x1 x2  σ = some r) : lm_rn sc d lm_m59.2.2.2.2.1 (lm_reg lm_m59.2.2.2.2.2) (0, [(0, .ref x0), (1, .int x1), (2, .int x2)], []) σ = some r := lm_rn_of h
/-- LatticeSuite.digest, from 37 on -/
noncomputable def lm_q59_37 (sc : lm_H) (A : Nat → List Value → lm_M lm_R) (B : lm_F → lm_M lm_R) (x0 : Nat) (x1 : Int32) (x2 : Int32) (x3 : Int32) : lm_M lm_R :=
  B (42, [(0, .ref x0), (1, .int x1), (2, .int x2), (3, .int x3)], [.int (Int32.ofInt 1)])
set_option maxRecDepth 100000 in
theorem lm_e59_37 {sc : lm_H} {d : Nat} {x0 : Nat} {x1 : Int32} {x2 : Int32} {x3 : Int32} {σ : lm_S} {r : Except Nat lm_R × lm_S} (h : lm_q59_37 sc (lm_cal sc d) (lm_rn sc d lm_m59.2.2.2.2.1 (lm_reg lm_m59.2.2.2.2.2)) x0 x1 x2 x3  σ = some r) : lm_rn sc d lm_m59.2.2.2.2.1 (lm_reg lm_m59.2.2.2.2.2) (37, [(0, .ref x0), (1, .int x1), (2, .int x2), (3, .int x3)], []) σ = some r := lm_rn_of h
/-- LatticeSuite.digest, from 42 on -/
noncomputable def lm_q59_42 (sc : lm_H) (A : Nat → List Value → lm_M lm_R) (B : lm_F → lm_M lm_R) (x0 : Nat) (x1 : Int32) (x2 : Int32) (x3 : Int32) (s0 : Int32) : lm_M lm_R :=
  lm_if .eq x1 (Int32.ofInt 13) (B (56, [(0, .ref x0), (1, .int x1), (2, .int x2), (3, .int x3), (4, .int s0)], [])) (lm_if .ne x1 (Int32.ofInt 14) (B (61, [(0, .ref x0), (1, .int x1), (2, .int x2), (3, .int x3), (4, .int s0)], [.int (Int32.ofInt 0)])) (B (56, [(0, .ref x0), (1, .int x1), (2, .int x2), (3, .int x3), (4, .int s0)], [])))
set_option maxRecDepth 100000 in
theorem lm_e59_42 {sc : lm_H} {d : Nat} {x0 : Nat} {x1 : Int32} {x2 : Int32} {x3 : Int32} {s0 : Int32} {σ : lm_S} {r : Except Nat lm_R × lm_S} (h : lm_q59_42 sc (lm_cal sc d) (lm_rn sc d lm_m59.2.2.2.2.1 (lm_reg lm_m59.2.2.2.2.2)) x0 x1 x2 x3 s0 σ = some r) : lm_rn sc d lm_m59.2.2.2.2.1 (lm_reg lm_m59.2.2.2.2.2) (42, [(0, .ref x0), (1, .int x1), (2, .int x2), (3, .int x3)], [.int s0]) σ = some r := lm_rn_of h
/-- LatticeSuite.digest, from 56 on -/
noncomputable def lm_q59_56 (sc : lm_H) (A : Nat → List Value → lm_M lm_R) (B : lm_F → lm_M lm_R) (x0 : Nat) (x1 : Int32) (x2 : Int32) (x3 : Int32) (x4 : Int32) : lm_M lm_R :=
  B (61, [(0, .ref x0), (1, .int x1), (2, .int x2), (3, .int x3), (4, .int x4)], [.int (Int32.ofInt 1)])
set_option maxRecDepth 100000 in
theorem lm_e59_56 {sc : lm_H} {d : Nat} {x0 : Nat} {x1 : Int32} {x2 : Int32} {x3 : Int32} {x4 : Int32} {σ : lm_S} {r : Except Nat lm_R × lm_S} (h : lm_q59_56 sc (lm_cal sc d) (lm_rn sc d lm_m59.2.2.2.2.1 (lm_reg lm_m59.2.2.2.2.2)) x0 x1 x2 x3 x4  σ = some r) : lm_rn sc d lm_m59.2.2.2.2.1 (lm_reg lm_m59.2.2.2.2.2) (56, [(0, .ref x0), (1, .int x1), (2, .int x2), (3, .int x3), (4, .int x4)], []) σ = some r := lm_rn_of h
/-- LatticeSuite.digest, from 61 on -/
noncomputable def lm_q59_61 (sc : lm_H) (A : Nat → List Value → lm_M lm_R) (B : lm_F → lm_M lm_R) (x0 : Nat) (x1 : Int32) (x2 : Int32) (x3 : Int32) (x4 : Int32) (s0 : Int32) : lm_M lm_R :=
  lm_bind (lm_gR 2 x0) fun v1 =>
  lm_bind (lm_aaR sc v1 (Int32.ofInt 0)) fun v2 =>
  lm_bind (lm_gR 2 x0) fun v3 =>
  lm_bind (lm_aaR sc v3 (Int32.ofInt 6)) fun v4 =>
  lm_if .eq x4 0 (lm_bind (lm_iald sc (lm_B + 1) x3) fun v5 =>
  B (96, [(0, .ref x0), (1, .int x1), (2, .int x2), (3, .int x3), (5, .int s0), (6, .ref v2), (7, .ref v4)], [.int v5, .ref v4])) (B (96, [(0, .ref x0), (1, .int x1), (2, .int x2), (3, .int x3), (5, .int s0), (6, .ref v2), (7, .ref v4)], [.int x2, .ref v4]))
set_option maxRecDepth 100000 in
theorem lm_e59_61 {sc : lm_H} {d : Nat} {x0 : Nat} {x1 : Int32} {x2 : Int32} {x3 : Int32} {x4 : Int32} {s0 : Int32} {σ : lm_S} {r : Except Nat lm_R × lm_S} (h : lm_q59_61 sc (lm_cal sc d) (lm_rn sc d lm_m59.2.2.2.2.1 (lm_reg lm_m59.2.2.2.2.2)) x0 x1 x2 x3 x4 s0 σ = some r) : lm_rn sc d lm_m59.2.2.2.2.1 (lm_reg lm_m59.2.2.2.2.2) (61, [(0, .ref x0), (1, .int x1), (2, .int x2), (3, .int x3), (4, .int x4)], [.int s0]) σ = some r := lm_rn_of h
/-- LatticeSuite.digest, from 96 on -/
noncomputable def lm_q59_96 (sc : lm_H) (A : Nat → List Value → lm_M lm_R) (B : lm_F → lm_M lm_R) (x0 : Nat) (x1 : Int32) (x2 : Int32) (x3 : Int32) (x5 : Int32) (x6 : Nat) (x7 : Nat) (s0 : Int32) (s1 : Nat) : lm_M lm_R :=
  lm_bind (lm_putf 404 s1 (.int s0)) fun _ =>
  lm_if .eq x5 0 (lm_bind (lm_gR 10 x0) fun v1 =>
  lm_bind (lm_sel [(2, 139)] (some (.ref v1))) fun y2 =>
  lm_bind (lm_asR (A y2 [.ref v1, .int x3])) fun v3 =>
  B (134, [(0, .ref x0), (1, .int x1), (2, .int x2), (3, .int x3), (5, .int x5), (7, .ref x7)], [.ref v3])) (lm_bind (lm_gR 10 x0) fun v4 =>
  lm_bind (lm_gR 402 x6) fun v5 =>
  lm_bind (lm_gI 404 x6) fun v6 =>
  lm_bind (lm_sel [(2, 138)] (some (.ref v4))) fun y7 =>
  lm_bind (lm_asR (A y7 [.ref v4, .int x3, .ref v5, .int (Int32.ofInt 0), .int v6])) fun v8 =>
  B (134, [(0, .ref x0), (1, .int x1), (2, .int x2), (3, .int x3), (5, .int x5), (7, .ref x7)], [.ref v8]))
set_option maxRecDepth 100000 in
theorem lm_e59_96 {sc : lm_H} {d : Nat} {x0 : Nat} {x1 : Int32} {x2 : Int32} {x3 : Int32} {x5 : Int32} {x6 : Nat} {x7 : Nat} {s0 : Int32} {s1 : Nat} {σ : lm_S} {r : Except Nat lm_R × lm_S} (h : lm_q59_96 sc (lm_cal sc d) (lm_rn sc d lm_m59.2.2.2.2.1 (lm_reg lm_m59.2.2.2.2.2)) x0 x1 x2 x3 x5 x6 x7 s0 s1 σ = some r) : lm_rn sc d lm_m59.2.2.2.2.1 (lm_reg lm_m59.2.2.2.2.2) (96, [(0, .ref x0), (1, .int x1), (2, .int x2), (3, .int x3), (5, .int x5), (6, .ref x6), (7, .ref x7)], [.int s0, .ref s1]) σ = some r := lm_rn_of h
/-- LatticeSuite.digest, from 134 on -/
noncomputable def lm_q59_134 (sc : lm_H) (A : Nat → List Value → lm_M lm_R) (B : lm_F → lm_M lm_R) (x0 : Nat) (x1 : Int32) (x2 : Int32) (x3 : Int32) (x5 : Int32) (x7 : Nat) (s0 : Nat) : lm_M lm_R :=
  lm_bind (lm_gR 2 x0) fun v1 =>
  lm_bind (lm_aaR sc v1 (Int32.ofInt 3)) fun v2 =>
  lm_bind (lm_gR 402 v2) fun v3 =>
  lm_bind (lm_gR 2 x0) fun v4 =>
  lm_bind (lm_aaR sc v4 (Int32.ofInt 3)) fun v5 =>
  lm_bind (lm_gI 404 v5) fun v6 =>
  lm_bind (lm_sel [(5, 140), (6, 140), (7, 140)] (some (.ref s0))) fun y7 =>
  lm_bind (lm_asV (A y7 [.ref s0, .ref v3, .int (Int32.ofInt 0), .int v6])) fun _ =>
  lm_if .eq x5 0 (lm_if .lt x1 (Int32.ofInt 15) (lm_bind (lm_gR 402 x7) fun v8 =>
  lm_bind (lm_gI 404 x7) fun v9 =>
  lm_bind (lm_sel [(5, 143), (6, 144), (7, 145)] (some (.ref s0))) fun y10 =>
  lm_bind (lm_asV (A y10 [.ref s0, .ref v8, .int (Int32.ofInt 0), .int v9])) fun _ =>
  lm_bind (lm_gI 404 x7) fun v11 =>
  lm_ret (some (.int v11))) (lm_bind (lm_gR 10 x0) fun v12 =>
  lm_bind (lm_gR 402 x7) fun v13 =>
  lm_bind (lm_sel [(2, 142)] (some (.ref v12))) fun y14 =>
  lm_bind (lm_asV (A y14 [.ref v12, .int x3, .ref v13, .int x2])) fun _ =>
  lm_bind (lm_gI 404 x7) fun v15 =>
  lm_ret (some (.int v15)))) (lm_bind (lm_gR 10 x0) fun v16 =>
  lm_bind (lm_gR 402 x7) fun v17 =>
  lm_bind (lm_gI 404 x7) fun v18 =>
  lm_bind (lm_sel [(2, 141)] (some (.ref v16))) fun y19 =>
  lm_bind (lm_asV (A y19 [.ref v16, .int x3, .ref v17, .int (Int32.ofInt 0), .int v18])) fun _ =>
  lm_bind (lm_gI 404 x7) fun v20 =>
  lm_ret (some (.int v20)))
set_option maxRecDepth 100000 in
theorem lm_e59_134 {sc : lm_H} {d : Nat} {x0 : Nat} {x1 : Int32} {x2 : Int32} {x3 : Int32} {x5 : Int32} {x7 : Nat} {s0 : Nat} {σ : lm_S} {r : Except Nat lm_R × lm_S} (h : lm_q59_134 sc (lm_cal sc d) (lm_rn sc d lm_m59.2.2.2.2.1 (lm_reg lm_m59.2.2.2.2.2)) x0 x1 x2 x3 x5 x7 s0 σ = some r) : lm_rn sc d lm_m59.2.2.2.2.1 (lm_reg lm_m59.2.2.2.2.2) (134, [(0, .ref x0), (1, .int x1), (2, .int x2), (3, .int x3), (5, .int x5), (7, .ref x7)], [.ref s0]) σ = some r := lm_rn_of h
/-- LatticeSuiteModel.digestOf, from 0 on -/
noncomputable def lm_q60_0 (sc : lm_H) (A : Nat → List Value → lm_M lm_R) (B : lm_F → lm_M lm_R) (x0 : Int32) : lm_M lm_R :=
  if (x0).toInt < 1 ∨ 12 < (x0).toInt then B (73, [], []) else lm_opt ((#[63, 66, 69, 72, 72, 63, 72, 63, 66, 69, 63, 69] : Array Int)[((x0).toInt - 1).toNat]?) fun off => B (lm_tgt 1 off, [], [])
set_option maxRecDepth 100000 in
theorem lm_e60_0 {sc : lm_H} {d : Nat} {x0 : Int32} {σ : lm_S} {r : Except Nat lm_R × lm_S} (h : lm_q60_0 sc (lm_cal sc d) (lm_rn sc d lm_m60.2.2.2.2.1 (lm_reg lm_m60.2.2.2.2.2)) x0  σ = some r) : lm_rn sc d lm_m60.2.2.2.2.1 (lm_reg lm_m60.2.2.2.2.2) (0, [(0, .int x0)], []) σ = some r := lm_rn_of h
/-- LatticeSuiteModel.digestOf, from 73 on -/
noncomputable def lm_q60_73 (sc : lm_H) (A : Nat → List Value → lm_M lm_R) (B : lm_F → lm_M lm_R)  : lm_M lm_R :=
  lm_ret (some (.int (Int32.ofInt 28)))
set_option maxRecDepth 100000 in
theorem lm_e60_73 {sc : lm_H} {d : Nat}  {σ : lm_S} {r : Except Nat lm_R × lm_S} (h : lm_q60_73 sc (lm_cal sc d) (lm_rn sc d lm_m60.2.2.2.2.1 (lm_reg lm_m60.2.2.2.2.2))   σ = some r) : lm_rn sc d lm_m60.2.2.2.2.1 (lm_reg lm_m60.2.2.2.2.2) (73, [], []) σ = some r := lm_rn_of h
/-- LatticeSuiteModel.digestOf, from 64 on -/
noncomputable def lm_q60_64 (sc : lm_H) (A : Nat → List Value → lm_M lm_R) (B : lm_F → lm_M lm_R)  : lm_M lm_R :=
  lm_ret (some (.int (Int32.ofInt 32)))
set_option maxRecDepth 100000 in
theorem lm_e60_64 {sc : lm_H} {d : Nat}  {σ : lm_S} {r : Except Nat lm_R × lm_S} (h : lm_q60_64 sc (lm_cal sc d) (lm_rn sc d lm_m60.2.2.2.2.1 (lm_reg lm_m60.2.2.2.2.2))   σ = some r) : lm_rn sc d lm_m60.2.2.2.2.1 (lm_reg lm_m60.2.2.2.2.2) (64, [], []) σ = some r := lm_rn_of h
/-- LatticeSuiteModel.digestOf, from 67 on -/
noncomputable def lm_q60_67 (sc : lm_H) (A : Nat → List Value → lm_M lm_R) (B : lm_F → lm_M lm_R)  : lm_M lm_R :=
  lm_ret (some (.int (Int32.ofInt 48)))
set_option maxRecDepth 100000 in
theorem lm_e60_67 {sc : lm_H} {d : Nat}  {σ : lm_S} {r : Except Nat lm_R × lm_S} (h : lm_q60_67 sc (lm_cal sc d) (lm_rn sc d lm_m60.2.2.2.2.1 (lm_reg lm_m60.2.2.2.2.2))   σ = some r) : lm_rn sc d lm_m60.2.2.2.2.1 (lm_reg lm_m60.2.2.2.2.2) (67, [], []) σ = some r := lm_rn_of h
/-- LatticeSuiteModel.digestOf, from 70 on -/
noncomputable def lm_q60_70 (sc : lm_H) (A : Nat → List Value → lm_M lm_R) (B : lm_F → lm_M lm_R)  : lm_M lm_R :=
  lm_ret (some (.int (Int32.ofInt 64)))
set_option maxRecDepth 100000 in
theorem lm_e60_70 {sc : lm_H} {d : Nat}  {σ : lm_S} {r : Except Nat lm_R × lm_S} (h : lm_q60_70 sc (lm_cal sc d) (lm_rn sc d lm_m60.2.2.2.2.1 (lm_reg lm_m60.2.2.2.2.2))   σ = some r) : lm_rn sc d lm_m60.2.2.2.2.1 (lm_reg lm_m60.2.2.2.2.2) (70, [], []) σ = some r := lm_rn_of h
/-- LatticeSuiteModel.begin, from 0 on -/
noncomputable def lm_q61_0 (sc : lm_H) (A : Nat → List Value → lm_M lm_R) (B : lm_F → lm_M lm_R) (x0 : Nat) (x1 : Int32) : lm_M lm_R :=
  lm_bind (lm_putf 4472 x0 (.int x1)) fun _ =>
  lm_bind (lm_putf 4480 x0 (.int (Int32.ofInt 0))) fun _ =>
  lm_bind (lm_putf 4485 x0 (.long (Int64.ofNat 0))) fun _ =>
  B (17, [(0, .ref x0), (1, .int x1), (2, .int (Int32.ofInt 0))], [])
set_option maxRecDepth 100000 in
theorem lm_e61_0 {sc : lm_H} {d : Nat} {x0 : Nat} {x1 : Int32} {σ : lm_S} {r : Except Nat lm_R × lm_S} (h : lm_q61_0 sc (lm_cal sc d) (lm_rn sc d lm_m61.2.2.2.2.1 (lm_reg lm_m61.2.2.2.2.2)) x0 x1  σ = some r) : lm_rn sc d lm_m61.2.2.2.2.1 (lm_reg lm_m61.2.2.2.2.2) (0, [(0, .ref x0), (1, .int x1)], []) σ = some r := lm_rn_of h
/-- LatticeSuiteModel.begin, from 17 on -/
noncomputable def lm_q61_17 (sc : lm_H) (A : Nat → List Value → lm_M lm_R) (B : lm_F → lm_M lm_R) (x0 : Nat) (x1 : Int32) (x2 : Int32) : lm_M lm_R :=
  lm_if .ge x2 (Int32.ofInt 25) (lm_if .ne x1 (Int32.ofInt 11) (lm_if .ne x1 (Int32.ofInt 12) (lm_if .le x1 (Int32.ofInt 6) (lm_bind (lm_asI (A 146 [.int x1])) fun v1 =>
  B (84, [(0, .ref x0), (1, .int x1)], [.int v1, .ref x0])) (lm_bind (lm_asI (A 60 [.int x1])) fun v2 =>
  B (84, [(0, .ref x0), (1, .int x1)], [.int ((Int32.ofInt 200) - ((Int32.ofInt 2) * v2)), .ref x0]))) (B (84, [(0, .ref x0), (1, .int x1)], [.int (Int32.ofInt 136), .ref x0]))) (B (84, [(0, .ref x0), (1, .int x1)], [.int (Int32.ofInt 168), .ref x0]))) (lm_bind (lm_gR 4454 x0) fun v3 =>
  lm_bind (lm_last v3 x2 (Int64.ofNat 0)) fun _ =>
  B (17, [(0, .ref x0), (1, .int x1), (2, .int (x2 + Int32.ofInt 1))], []))
set_option maxRecDepth 100000 in
theorem lm_e61_17 {sc : lm_H} {d : Nat} {x0 : Nat} {x1 : Int32} {x2 : Int32} {σ : lm_S} {r : Except Nat lm_R × lm_S} (h : lm_q61_17 sc (lm_cal sc d) (lm_rn sc d lm_m61.2.2.2.2.1 (lm_reg lm_m61.2.2.2.2.2)) x0 x1 x2  σ = some r) : lm_rn sc d lm_m61.2.2.2.2.1 (lm_reg lm_m61.2.2.2.2.2) (17, [(0, .ref x0), (1, .int x1), (2, .int x2)], []) σ = some r := lm_rn_of h
/-- LatticeSuiteModel.begin, from 84 on -/
noncomputable def lm_q61_84 (sc : lm_H) (A : Nat → List Value → lm_M lm_R) (B : lm_F → lm_M lm_R) (x0 : Nat) (x1 : Int32) (s0 : Int32) (s1 : Nat) : lm_M lm_R :=
  lm_bind (lm_putf 4476 s1 (.int s0)) fun _ =>
  B (89, [(0, .ref x0), (1, .int x1), (2, .int (Int32.ofInt 0))], [])
set_option maxRecDepth 100000 in
theorem lm_e61_84 {sc : lm_H} {d : Nat} {x0 : Nat} {x1 : Int32} {s0 : Int32} {s1 : Nat} {σ : lm_S} {r : Except Nat lm_R × lm_S} (h : lm_q61_84 sc (lm_cal sc d) (lm_rn sc d lm_m61.2.2.2.2.1 (lm_reg lm_m61.2.2.2.2.2)) x0 x1 s0 s1 σ = some r) : lm_rn sc d lm_m61.2.2.2.2.1 (lm_reg lm_m61.2.2.2.2.2) (84, [(0, .ref x0), (1, .int x1)], [.int s0, .ref s1]) σ = some r := lm_rn_of h
/-- LatticeSuiteModel.begin, from 89 on -/
noncomputable def lm_q61_89 (sc : lm_H) (A : Nat → List Value → lm_M lm_R) (B : lm_F → lm_M lm_R) (x0 : Nat) (x1 : Int32) (x2 : Int32) : lm_M lm_R :=
  lm_if .ge x2 (Int32.ofInt 8) (lm_ret none) (lm_if .ge x1 (Int32.ofInt 7) (lm_ret none) (lm_bind (lm_gR 4454 x0) fun v1 =>
  lm_if .ne x1 (Int32.ofInt 1) (lm_if .ne x1 (Int32.ofInt 4) (lm_if .ne x1 (Int32.ofInt 2) (lm_if .ne x1 (Int32.ofInt 5) (lm_if .ne x1 (Int32.ofInt 6) (lm_bind (lm_gR 4422 x0) fun v2 =>
  lm_bind (lm_lald sc v2 x2) fun v3 =>
  B (196, [(0, .ref x0), (1, .int x1), (2, .int x2)], [.long v3, .int x2, .ref v1])) (lm_bind (lm_gR 4434 x0) fun v4 =>
  lm_bind (lm_lald sc v4 x2) fun v5 =>
  B (196, [(0, .ref x0), (1, .int x1), (2, .int x2)], [.long v5, .int x2, .ref v1]))) (lm_bind (lm_gR 4430 x0) fun v6 =>
  lm_bind (lm_lald sc v6 x2) fun v7 =>
  B (196, [(0, .ref x0), (1, .int x1), (2, .int x2)], [.long v7, .int x2, .ref v1]))) (lm_bind (lm_gR 4422 x0) fun v8 =>
  lm_bind (lm_lald sc v8 ((Int32.ofInt 8) + x2)) fun v9 =>
  B (196, [(0, .ref x0), (1, .int x1), (2, .int x2)], [.long v9, .int x2, .ref v1]))) (lm_bind (lm_gR 4422 x0) fun v10 =>
  lm_bind (lm_lald sc v10 ((Int32.ofInt 8) + x2)) fun v11 =>
  B (196, [(0, .ref x0), (1, .int x1), (2, .int x2)], [.long (v11 &&& (Int64.ofNat 4294967295)), .int x2, .ref v1]))) (lm_bind (lm_gR 4422 x0) fun v12 =>
  lm_bind (lm_lald sc v12 x2) fun v13 =>
  B (196, [(0, .ref x0), (1, .int x1), (2, .int x2)], [.long (lm_uL v13 (Int32.ofInt 32)), .int x2, .ref v1]))))
set_option maxRecDepth 100000 in
theorem lm_e61_89 {sc : lm_H} {d : Nat} {x0 : Nat} {x1 : Int32} {x2 : Int32} {σ : lm_S} {r : Except Nat lm_R × lm_S} (h : lm_q61_89 sc (lm_cal sc d) (lm_rn sc d lm_m61.2.2.2.2.1 (lm_reg lm_m61.2.2.2.2.2)) x0 x1 x2  σ = some r) : lm_rn sc d lm_m61.2.2.2.2.1 (lm_reg lm_m61.2.2.2.2.2) (89, [(0, .ref x0), (1, .int x1), (2, .int x2)], []) σ = some r := lm_rn_of h
/-- LatticeSuiteModel.begin, from 196 on -/
noncomputable def lm_q61_196 (sc : lm_H) (A : Nat → List Value → lm_M lm_R) (B : lm_F → lm_M lm_R) (x0 : Nat) (x1 : Int32) (x2 : Int32) (s0 : Int64) (s1 : Int32) (s2 : Nat) : lm_M lm_R :=
  lm_bind (lm_last s2 s1 s0) fun _ =>
  B (89, [(0, .ref x0), (1, .int x1), (2, .int (x2 + Int32.ofInt 1))], [])
set_option maxRecDepth 100000 in
theorem lm_e61_196 {sc : lm_H} {d : Nat} {x0 : Nat} {x1 : Int32} {x2 : Int32} {s0 : Int64} {s1 : Int32} {s2 : Nat} {σ : lm_S} {r : Except Nat lm_R × lm_S} (h : lm_q61_196 sc (lm_cal sc d) (lm_rn sc d lm_m61.2.2.2.2.1 (lm_reg lm_m61.2.2.2.2.2)) x0 x1 x2 s0 s1 s2 σ = some r) : lm_rn sc d lm_m61.2.2.2.2.1 (lm_reg lm_m61.2.2.2.2.2) (196, [(0, .ref x0), (1, .int x1), (2, .int x2)], [.long s0, .int s1, .ref s2]) σ = some r := lm_rn_of h
/-- LatticeSuiteModel.put, from 0 on -/
noncomputable def lm_q62_0 (sc : lm_H) (A : Nat → List Value → lm_M lm_R) (B : lm_F → lm_M lm_R) (x0 : Nat) (x1 : Nat) (x2 : Int32) (x3 : Int32) : lm_M lm_R :=
  B (3, [(0, .ref x0), (1, .ref x1), (2, .int x2), (3, .int x3), (4, .int (Int32.ofInt 0))], [])
set_option maxRecDepth 100000 in
theorem lm_e62_0 {sc : lm_H} {d : Nat} {x0 : Nat} {x1 : Nat} {x2 : Int32} {x3 : Int32} {σ : lm_S} {r : Except Nat lm_R × lm_S} (h : lm_q62_0 sc (lm_cal sc d) (lm_rn sc d lm_m62.2.2.2.2.1 (lm_reg lm_m62.2.2.2.2.2)) x0 x1 x2 x3  σ = some r) : lm_rn sc d lm_m62.2.2.2.2.1 (lm_reg lm_m62.2.2.2.2.2) (0, [(0, .ref x0), (1, .ref x1), (2, .int x2), (3, .int x3)], []) σ = some r := lm_rn_of h
/-- LatticeSuiteModel.put, from 3 on -/
noncomputable def lm_q62_3 (sc : lm_H) (A : Nat → List Value → lm_M lm_R) (B : lm_F → lm_M lm_R) (x0 : Nat) (x1 : Nat) (x2 : Int32) (x3 : Int32) (x4 : Int32) : lm_M lm_R :=
  lm_if .ge x4 x3 (lm_ret none) (lm_bind (lm_bald sc x1 (x2 + x4)) fun v1 =>
  lm_bind (lm_sel [(11, 69)] (some (.ref x0))) fun y2 =>
  lm_bind (lm_asV (A y2 [.ref x0, .int v1])) fun _ =>
  B (3, [(0, .ref x0), (1, .ref x1), (2, .int x2), (3, .int x3), (4, .int (x4 + Int32.ofInt 1))], []))
set_option maxRecDepth 100000 in
theorem lm_e62_3 {sc : lm_H} {d : Nat} {x0 : Nat} {x1 : Nat} {x2 : Int32} {x3 : Int32} {x4 : Int32} {σ : lm_S} {r : Except Nat lm_R × lm_S} (h : lm_q62_3 sc (lm_cal sc d) (lm_rn sc d lm_m62.2.2.2.2.1 (lm_reg lm_m62.2.2.2.2.2)) x0 x1 x2 x3 x4  σ = some r) : lm_rn sc d lm_m62.2.2.2.2.1 (lm_reg lm_m62.2.2.2.2.2) (3, [(0, .ref x0), (1, .ref x1), (2, .int x2), (3, .int x3), (4, .int x4)], []) σ = some r := lm_rn_of h
/-- LatticeSuiteModel.give, from 0 on -/
noncomputable def lm_q63_0 (sc : lm_H) (A : Nat → List Value → lm_M lm_R) (B : lm_F → lm_M lm_R) (x0 : Nat) (x1 : Nat) (x2 : Int32) (x3 : Int32) : lm_M lm_R :=
  lm_bind (lm_sel [(11, 147)] (some (.ref x0))) fun y1 =>
  lm_bind (lm_asV (A y1 [.ref x0])) fun _ =>
  B (7, [(0, .ref x0), (1, .ref x1), (2, .int x2), (3, .int x3), (4, .int (Int32.ofInt 0))], [])
set_option maxRecDepth 100000 in
theorem lm_e63_0 {sc : lm_H} {d : Nat} {x0 : Nat} {x1 : Nat} {x2 : Int32} {x3 : Int32} {σ : lm_S} {r : Except Nat lm_R × lm_S} (h : lm_q63_0 sc (lm_cal sc d) (lm_rn sc d lm_m63.2.2.2.2.1 (lm_reg lm_m63.2.2.2.2.2)) x0 x1 x2 x3  σ = some r) : lm_rn sc d lm_m63.2.2.2.2.1 (lm_reg lm_m63.2.2.2.2.2) (0, [(0, .ref x0), (1, .ref x1), (2, .int x2), (3, .int x3)], []) σ = some r := lm_rn_of h
/-- LatticeSuiteModel.give, from 7 on -/
noncomputable def lm_q63_7 (sc : lm_H) (A : Nat → List Value → lm_M lm_R) (B : lm_F → lm_M lm_R) (x0 : Nat) (x1 : Nat) (x2 : Int32) (x3 : Int32) (x4 : Int32) : lm_M lm_R :=
  lm_if .ge x4 x3 (lm_ret none) (lm_bind (lm_sel [(11, 148)] (some (.ref x0))) fun y1 =>
  lm_bind (lm_asI (A y1 [.ref x0])) fun v2 =>
  lm_if .eq v2 0 (lm_bind (lm_gI 4476 x0) fun v3 =>
  lm_if .ne v3 (Int32.ofInt 64) (lm_bind (lm_gR 4454 x0) fun v4 =>
  lm_when (¬ (Int32.ofInt 8) = 0) inferInstance (lm_bind (lm_lald sc v4 (x4 / (Int32.ofInt 8))) fun v5 =>
  lm_when (¬ (Int32.ofInt 8) = 0) inferInstance (B (93, [(0, .ref x0), (1, .ref x1), (2, .int x2), (3, .int x3), (4, .int x4)], [.long (lm_uL v5 ((Int32.ofInt 56) - ((Int32.ofInt 8) * (lm_rem x4 (Int32.ofInt 8))))), .int (x2 + x4), .ref x1])))) (lm_bind (lm_gR 4454 x0) fun v6 =>
  lm_when (¬ (Int32.ofInt 4) = 0) inferInstance (lm_bind (lm_lald sc v6 (x4 / (Int32.ofInt 4))) fun v7 =>
  lm_when (¬ (Int32.ofInt 4) = 0) inferInstance (B (93, [(0, .ref x0), (1, .ref x1), (2, .int x2), (3, .int x3), (4, .int x4)], [.long (lm_uL v7 ((Int32.ofInt 24) - ((Int32.ofInt 8) * (lm_rem x4 (Int32.ofInt 4))))), .int (x2 + x4), .ref x1]))))) (lm_bind (lm_sel [(11, 149)] (some (.ref x0))) fun y8 =>
  lm_bind (lm_asI (A y8 [.ref x0])) fun v9 =>
  lm_bind (lm_bast x1 (x2 + x4) (lm_b8 v9)) fun _ =>
  B (96, [(0, .ref x0), (1, .ref x1), (2, .int x2), (3, .int x3), (4, .int x4)], [])))
set_option maxRecDepth 100000 in
theorem lm_e63_7 {sc : lm_H} {d : Nat} {x0 : Nat} {x1 : Nat} {x2 : Int32} {x3 : Int32} {x4 : Int32} {σ : lm_S} {r : Except Nat lm_R × lm_S} (h : lm_q63_7 sc (lm_cal sc d) (lm_rn sc d lm_m63.2.2.2.2.1 (lm_reg lm_m63.2.2.2.2.2)) x0 x1 x2 x3 x4  σ = some r) : lm_rn sc d lm_m63.2.2.2.2.1 (lm_reg lm_m63.2.2.2.2.2) (7, [(0, .ref x0), (1, .ref x1), (2, .int x2), (3, .int x3), (4, .int x4)], []) σ = some r := lm_rn_of h
/-- LatticeSuiteModel.give, from 93 on -/
noncomputable def lm_q63_93 (sc : lm_H) (A : Nat → List Value → lm_M lm_R) (B : lm_F → lm_M lm_R) (x0 : Nat) (x1 : Nat) (x2 : Int32) (x3 : Int32) (x4 : Int32) (s0 : Int64) (s1 : Int32) (s2 : Nat) : lm_M lm_R :=
  lm_bind (lm_bast s2 s1 (lm_b8 (Int64.toInt32 s0))) fun _ =>
  B (96, [(0, .ref x0), (1, .ref x1), (2, .int x2), (3, .int x3), (4, .int x4)], [])
set_option maxRecDepth 100000 in
theorem lm_e63_93 {sc : lm_H} {d : Nat} {x0 : Nat} {x1 : Nat} {x2 : Int32} {x3 : Int32} {x4 : Int32} {s0 : Int64} {s1 : Int32} {s2 : Nat} {σ : lm_S} {r : Except Nat lm_R × lm_S} (h : lm_q63_93 sc (lm_cal sc d) (lm_rn sc d lm_m63.2.2.2.2.1 (lm_reg lm_m63.2.2.2.2.2)) x0 x1 x2 x3 x4 s0 s1 s2 σ = some r) : lm_rn sc d lm_m63.2.2.2.2.1 (lm_reg lm_m63.2.2.2.2.2) (93, [(0, .ref x0), (1, .ref x1), (2, .int x2), (3, .int x3), (4, .int x4)], [.long s0, .int s1, .ref s2]) σ = some r := lm_rn_of h
/-- LatticeSuiteModel.give, from 96 on -/
noncomputable def lm_q63_96 (sc : lm_H) (A : Nat → List Value → lm_M lm_R) (B : lm_F → lm_M lm_R) (x0 : Nat) (x1 : Nat) (x2 : Int32) (x3 : Int32) (x4 : Int32) : lm_M lm_R :=
  B (7, [(0, .ref x0), (1, .ref x1), (2, .int x2), (3, .int x3), (4, .int (x4 + Int32.ofInt 1))], [])
set_option maxRecDepth 100000 in
theorem lm_e63_96 {sc : lm_H} {d : Nat} {x0 : Nat} {x1 : Nat} {x2 : Int32} {x3 : Int32} {x4 : Int32} {σ : lm_S} {r : Except Nat lm_R × lm_S} (h : lm_q63_96 sc (lm_cal sc d) (lm_rn sc d lm_m63.2.2.2.2.1 (lm_reg lm_m63.2.2.2.2.2)) x0 x1 x2 x3 x4  σ = some r) : lm_rn sc d lm_m63.2.2.2.2.1 (lm_reg lm_m63.2.2.2.2.2) (96, [(0, .ref x0), (1, .ref x1), (2, .int x2), (3, .int x3), (4, .int x4)], []) σ = some r := lm_rn_of h
/-- LatticeSuiteModel.startMac, from 0 on -/
noncomputable def lm_q64_0 (sc : lm_H) (A : Nat → List Value → lm_M lm_R) (B : lm_F → lm_M lm_R) (x0 : Nat) (x1 : Int32) (x2 : Nat) (x3 : Int32) (x4 : Int32) : lm_M lm_R :=
  lm_bind (lm_asI (A 146 [.int x1])) fun v1 =>
  B (9, [(0, .ref x0), (1, .int x1), (2, .ref x2), (3, .int x3), (4, .int x4), (5, .int v1), (6, .int (Int32.ofInt 0))], [])
set_option maxRecDepth 100000 in
theorem lm_e64_0 {sc : lm_H} {d : Nat} {x0 : Nat} {x1 : Int32} {x2 : Nat} {x3 : Int32} {x4 : Int32} {σ : lm_S} {r : Except Nat lm_R × lm_S} (h : lm_q64_0 sc (lm_cal sc d) (lm_rn sc d lm_m64.2.2.2.2.1 (lm_reg lm_m64.2.2.2.2.2)) x0 x1 x2 x3 x4  σ = some r) : lm_rn sc d lm_m64.2.2.2.2.1 (lm_reg lm_m64.2.2.2.2.2) (0, [(0, .ref x0), (1, .int x1), (2, .ref x2), (3, .int x3), (4, .int x4)], []) σ = some r := lm_rn_of h
/-- LatticeSuiteModel.startMac, from 9 on -/
noncomputable def lm_q64_9 (sc : lm_H) (A : Nat → List Value → lm_M lm_R) (B : lm_F → lm_M lm_R) (x0 : Nat) (x1 : Int32) (x2 : Nat) (x3 : Int32) (x4 : Int32) (x5 : Int32) (x6 : Int32) : lm_M lm_R :=
  lm_if .ge x6 (Int32.ofInt 128) (lm_if .le x4 x5 (lm_bind (lm_gR 4490 x0) fun v1 =>
  lm_bind (lm_asV (A 75 [.ref x2, .int x3, .ref v1, .int (Int32.ofInt 0), .int x4])) fun _ =>
  B (79, [(0, .ref x0), (1, .int x1), (5, .int x5)], [])) (lm_bind (lm_sel [(11, 61)] (some (.ref x0))) fun y2 =>
  lm_bind (lm_asV (A y2 [.ref x0, .int x1])) fun _ =>
  lm_bind (lm_sel [(11, 62)] (some (.ref x0))) fun y3 =>
  lm_bind (lm_asV (A y3 [.ref x0, .ref x2, .int x3, .int x4])) fun _ =>
  lm_bind (lm_gR 4490 x0) fun v4 =>
  lm_bind (lm_asI (A 60 [.int x1])) fun v5 =>
  lm_bind (lm_sel [(11, 63)] (some (.ref x0))) fun y6 =>
  lm_bind (lm_asV (A y6 [.ref x0, .ref v4, .int (Int32.ofInt 0), .int v5])) fun _ =>
  B (79, [(0, .ref x0), (1, .int x1), (5, .int x5)], []))) (lm_bind (lm_gR 4490 x0) fun v7 =>
  lm_bind (lm_bast v7 x6 (Int32.ofInt 0)) fun _ =>
  B (9, [(0, .ref x0), (1, .int x1), (2, .ref x2), (3, .int x3), (4, .int x4), (5, .int x5), (6, .int (x6 + Int32.ofInt 1))], []))
set_option maxRecDepth 100000 in
theorem lm_e64_9 {sc : lm_H} {d : Nat} {x0 : Nat} {x1 : Int32} {x2 : Nat} {x3 : Int32} {x4 : Int32} {x5 : Int32} {x6 : Int32} {σ : lm_S} {r : Except Nat lm_R × lm_S} (h : lm_q64_9 sc (lm_cal sc d) (lm_rn sc d lm_m64.2.2.2.2.1 (lm_reg lm_m64.2.2.2.2.2)) x0 x1 x2 x3 x4 x5 x6  σ = some r) : lm_rn sc d lm_m64.2.2.2.2.1 (lm_reg lm_m64.2.2.2.2.2) (9, [(0, .ref x0), (1, .int x1), (2, .ref x2), (3, .int x3), (4, .int x4), (5, .int x5), (6, .int x6)], []) σ = some r := lm_rn_of h
/-- LatticeSuiteModel.startMac, from 79 on -/
noncomputable def lm_q64_79 (sc : lm_H) (A : Nat → List Value → lm_M lm_R) (B : lm_F → lm_M lm_R) (x0 : Nat) (x1 : Int32) (x5 : Int32) : lm_M lm_R :=
  lm_bind (lm_sel [(11, 61)] (some (.ref x0))) fun y1 =>
  lm_bind (lm_asV (A y1 [.ref x0, .int x1])) fun _ =>
  B (87, [(0, .ref x0), (5, .int x5), (6, .int (Int32.ofInt 0))], [])
set_option maxRecDepth 100000 in
theorem lm_e64_79 {sc : lm_H} {d : Nat} {x0 : Nat} {x1 : Int32} {x5 : Int32} {σ : lm_S} {r : Except Nat lm_R × lm_S} (h : lm_q64_79 sc (lm_cal sc d) (lm_rn sc d lm_m64.2.2.2.2.1 (lm_reg lm_m64.2.2.2.2.2)) x0 x1 x5  σ = some r) : lm_rn sc d lm_m64.2.2.2.2.1 (lm_reg lm_m64.2.2.2.2.2) (79, [(0, .ref x0), (1, .int x1), (5, .int x5)], []) σ = some r := lm_rn_of h
/-- LatticeSuiteModel.startMac, from 87 on -/
noncomputable def lm_q64_87 (sc : lm_H) (A : Nat → List Value → lm_M lm_R) (B : lm_F → lm_M lm_R) (x0 : Nat) (x5 : Int32) (x6 : Int32) : lm_M lm_R :=
  lm_if .ge x6 x5 (lm_ret none) (lm_bind (lm_gR 4490 x0) fun v1 =>
  lm_bind (lm_bald sc v1 x6) fun v2 =>
  lm_bind (lm_sel [(11, 69)] (some (.ref x0))) fun y3 =>
  lm_bind (lm_asV (A y3 [.ref x0, .int (v2 ^^^ (Int32.ofInt 54))])) fun _ =>
  B (87, [(0, .ref x0), (5, .int x5), (6, .int (x6 + Int32.ofInt 1))], []))
set_option maxRecDepth 100000 in
theorem lm_e64_87 {sc : lm_H} {d : Nat} {x0 : Nat} {x5 : Int32} {x6 : Int32} {σ : lm_S} {r : Except Nat lm_R × lm_S} (h : lm_q64_87 sc (lm_cal sc d) (lm_rn sc d lm_m64.2.2.2.2.1 (lm_reg lm_m64.2.2.2.2.2)) x0 x5 x6  σ = some r) : lm_rn sc d lm_m64.2.2.2.2.1 (lm_reg lm_m64.2.2.2.2.2) (87, [(0, .ref x0), (5, .int x5), (6, .int x6)], []) σ = some r := lm_rn_of h
/-- LatticeSuiteModel.endMac, from 0 on -/
noncomputable def lm_q65_0 (sc : lm_H) (A : Nat → List Value → lm_M lm_R) (B : lm_F → lm_M lm_R) (x0 : Nat) (x1 : Int32) (x2 : Nat) (x3 : Int32) (x4 : Int32) : lm_M lm_R :=
  lm_bind (lm_asI (A 146 [.int x1])) fun v1 =>
  lm_bind (lm_gR 4494 x0) fun v2 =>
  lm_bind (lm_asI (A 60 [.int x1])) fun v3 =>
  lm_bind (lm_sel [(11, 63)] (some (.ref x0))) fun y4 =>
  lm_bind (lm_asV (A y4 [.ref x0, .ref v2, .int (Int32.ofInt 0), .int v3])) fun _ =>
  lm_bind (lm_sel [(11, 61)] (some (.ref x0))) fun y5 =>
  lm_bind (lm_asV (A y5 [.ref x0, .int x1])) fun _ =>
  B (27, [(0, .ref x0), (1, .int x1), (2, .ref x2), (3, .int x3), (4, .int x4), (5, .int v1), (6, .int (Int32.ofInt 0))], [])
set_option maxRecDepth 100000 in
theorem lm_e65_0 {sc : lm_H} {d : Nat} {x0 : Nat} {x1 : Int32} {x2 : Nat} {x3 : Int32} {x4 : Int32} {σ : lm_S} {r : Except Nat lm_R × lm_S} (h : lm_q65_0 sc (lm_cal sc d) (lm_rn sc d lm_m65.2.2.2.2.1 (lm_reg lm_m65.2.2.2.2.2)) x0 x1 x2 x3 x4  σ = some r) : lm_rn sc d lm_m65.2.2.2.2.1 (lm_reg lm_m65.2.2.2.2.2) (0, [(0, .ref x0), (1, .int x1), (2, .ref x2), (3, .int x3), (4, .int x4)], []) σ = some r := lm_rn_of h
/-- LatticeSuiteModel.endMac, from 27 on -/
noncomputable def lm_q65_27 (sc : lm_H) (A : Nat → List Value → lm_M lm_R) (B : lm_F → lm_M lm_R) (x0 : Nat) (x1 : Int32) (x2 : Nat) (x3 : Int32) (x4 : Int32) (x5 : Int32) (x6 : Int32) : lm_M lm_R :=
  lm_if .ge x6 x5 (lm_bind (lm_gR 4494 x0) fun v1 =>
  lm_bind (lm_asI (A 60 [.int x1])) fun v2 =>
  lm_bind (lm_sel [(11, 62)] (some (.ref x0))) fun y3 =>
  lm_bind (lm_asV (A y3 [.ref x0, .ref v1, .int (Int32.ofInt 0), .int v2])) fun _ =>
  lm_bind (lm_sel [(11, 63)] (some (.ref x0))) fun y4 =>
  lm_bind (lm_asV (A y4 [.ref x0, .ref x2, .int x3, .int x4])) fun _ =>
  lm_ret none) (lm_bind (lm_gR 4490 x0) fun v5 =>
  lm_bind (lm_bald sc v5 x6) fun v6 =>
  lm_bind (lm_sel [(11, 69)] (some (.ref x0))) fun y7 =>
  lm_bind (lm_asV (A y7 [.ref x0, .int (v6 ^^^ (Int32.ofInt 92))])) fun _ =>
  B (27, [(0, .ref x0), (1, .int x1), (2, .ref x2), (3, .int x3), (4, .int x4), (5, .int x5), (6, .int (x6 + Int32.ofInt 1))], []))
set_option maxRecDepth 100000 in
theorem lm_e65_27 {sc : lm_H} {d : Nat} {x0 : Nat} {x1 : Int32} {x2 : Nat} {x3 : Int32} {x4 : Int32} {x5 : Int32} {x6 : Int32} {σ : lm_S} {r : Except Nat lm_R × lm_S} (h : lm_q65_27 sc (lm_cal sc d) (lm_rn sc d lm_m65.2.2.2.2.1 (lm_reg lm_m65.2.2.2.2.2)) x0 x1 x2 x3 x4 x5 x6  σ = some r) : lm_rn sc d lm_m65.2.2.2.2.1 (lm_reg lm_m65.2.2.2.2.2) (27, [(0, .ref x0), (1, .int x1), (2, .ref x2), (3, .int x3), (4, .int x4), (5, .int x5), (6, .int x6)], []) σ = some r := lm_rn_of h
/-- LatticeSuiteModel.mask, from 0 on -/
noncomputable def lm_q66_0 (sc : lm_H) (A : Nat → List Value → lm_M lm_R) (B : lm_F → lm_M lm_R) (x0 : Nat) (x1 : Int32) (x2 : Nat) (x3 : Int32) (x4 : Nat) (x5 : Int32) (x6 : Int32) : lm_M lm_R :=
  lm_bind (lm_asI (A 60 [.int x1])) fun v1 =>
  B (9, [(0, .ref x0), (1, .int x1), (2, .ref x2), (3, .int x3), (4, .ref x4), (5, .int x5), (6, .int x6), (7, .int v1), (8, .int (Int32.ofInt 0))], [])
set_option maxRecDepth 100000 in
theorem lm_e66_0 {sc : lm_H} {d : Nat} {x0 : Nat} {x1 : Int32} {x2 : Nat} {x3 : Int32} {x4 : Nat} {x5 : Int32} {x6 : Int32} {σ : lm_S} {r : Except Nat lm_R × lm_S} (h : lm_q66_0 sc (lm_cal sc d) (lm_rn sc d lm_m66.2.2.2.2.1 (lm_reg lm_m66.2.2.2.2.2)) x0 x1 x2 x3 x4 x5 x6  σ = some r) : lm_rn sc d lm_m66.2.2.2.2.1 (lm_reg lm_m66.2.2.2.2.2) (0, [(0, .ref x0), (1, .int x1), (2, .ref x2), (3, .int x3), (4, .ref x4), (5, .int x5), (6, .int x6)], []) σ = some r := lm_rn_of h
/-- LatticeSuiteModel.mask, from 9 on -/
noncomputable def lm_q66_9 (sc : lm_H) (A : Nat → List Value → lm_M lm_R) (B : lm_F → lm_M lm_R) (x0 : Nat) (x1 : Int32) (x2 : Nat) (x3 : Int32) (x4 : Nat) (x5 : Int32) (x6 : Int32) (x7 : Int32) (x8 : Int32) : lm_M lm_R :=
  lm_if .ge (x8 * x7) x6 (lm_ret none) (lm_bind (lm_sel [(11, 61)] (some (.ref x0))) fun y1 =>
  lm_bind (lm_asV (A y1 [.ref x0, .int x1])) fun _ =>
  lm_bind (lm_sel [(11, 62)] (some (.ref x0))) fun y2 =>
  lm_bind (lm_asV (A y2 [.ref x0, .ref x2, .int (Int32.ofInt 0), .int x3])) fun _ =>
  B (35, [(0, .ref x0), (1, .int x1), (2, .ref x2), (3, .int x3), (4, .ref x4), (5, .int x5), (6, .int x6), (7, .int x7), (8, .int x8), (9, .int (Int32.ofInt 24))], []))
set_option maxRecDepth 100000 in
theorem lm_e66_9 {sc : lm_H} {d : Nat} {x0 : Nat} {x1 : Int32} {x2 : Nat} {x3 : Int32} {x4 : Nat} {x5 : Int32} {x6 : Int32} {x7 : Int32} {x8 : Int32} {σ : lm_S} {r : Except Nat lm_R × lm_S} (h : lm_q66_9 sc (lm_cal sc d) (lm_rn sc d lm_m66.2.2.2.2.1 (lm_reg lm_m66.2.2.2.2.2)) x0 x1 x2 x3 x4 x5 x6 x7 x8  σ = some r) : lm_rn sc d lm_m66.2.2.2.2.1 (lm_reg lm_m66.2.2.2.2.2) (9, [(0, .ref x0), (1, .int x1), (2, .ref x2), (3, .int x3), (4, .ref x4), (5, .int x5), (6, .int x6), (7, .int x7), (8, .int x8)], []) σ = some r := lm_rn_of h
/-- LatticeSuiteModel.mask, from 35 on -/
noncomputable def lm_q66_35 (sc : lm_H) (A : Nat → List Value → lm_M lm_R) (B : lm_F → lm_M lm_R) (x0 : Nat) (x1 : Int32) (x2 : Nat) (x3 : Int32) (x4 : Nat) (x5 : Int32) (x6 : Int32) (x7 : Int32) (x8 : Int32) (x9 : Int32) : lm_M lm_R :=
  lm_if .lt x9 0 (lm_bind (lm_gR 4494 x0) fun v1 =>
  lm_bind (lm_sel [(11, 63)] (some (.ref x0))) fun y2 =>
  lm_bind (lm_asV (A y2 [.ref x0, .ref v1, .int (Int32.ofInt 0), .int x7])) fun _ =>
  lm_bind (lm_gR 4494 x0) fun v3 =>
  lm_if .ge (x6 - (x8 * x7)) x7 (B (107, [(0, .ref x0), (1, .int x1), (2, .ref x2), (3, .int x3), (4, .ref x4), (5, .int x5), (6, .int x6), (7, .int x7), (8, .int x8)], [.int x7, .int (x5 + (x8 * x7)), .ref x4, .int (Int32.ofInt 0), .ref v3])) (B (107, [(0, .ref x0), (1, .int x1), (2, .ref x2), (3, .int x3), (4, .ref x4), (5, .int x5), (6, .int x6), (7, .int x7), (8, .int x8)], [.int (x6 - (x8 * x7)), .int (x5 + (x8 * x7)), .ref x4, .int (Int32.ofInt 0), .ref v3]))) (lm_bind (lm_sel [(11, 69)] (some (.ref x0))) fun y4 =>
  lm_bind (lm_asV (A y4 [.ref x0, .int (x8 >>> (x9 &&& 31))])) fun _ =>
  B (35, [(0, .ref x0), (1, .int x1), (2, .ref x2), (3, .int x3), (4, .ref x4), (5, .int x5), (6, .int x6), (7, .int x7), (8, .int x8), (9, .int (x9 + Int32.ofInt (-8)))], []))
set_option maxRecDepth 100000 in
theorem lm_e66_35 {sc : lm_H} {d : Nat} {x0 : Nat} {x1 : Int32} {x2 : Nat} {x3 : Int32} {x4 : Nat} {x5 : Int32} {x6 : Int32} {x7 : Int32} {x8 : Int32} {x9 : Int32} {σ : lm_S} {r : Except Nat lm_R × lm_S} (h : lm_q66_35 sc (lm_cal sc d) (lm_rn sc d lm_m66.2.2.2.2.1 (lm_reg lm_m66.2.2.2.2.2)) x0 x1 x2 x3 x4 x5 x6 x7 x8 x9  σ = some r) : lm_rn sc d lm_m66.2.2.2.2.1 (lm_reg lm_m66.2.2.2.2.2) (35, [(0, .ref x0), (1, .int x1), (2, .ref x2), (3, .int x3), (4, .ref x4), (5, .int x5), (6, .int x6), (7, .int x7), (8, .int x8), (9, .int x9)], []) σ = some r := lm_rn_of h
/-- LatticeSuiteModel.mask, from 107 on -/
noncomputable def lm_q66_107 (sc : lm_H) (A : Nat → List Value → lm_M lm_R) (B : lm_F → lm_M lm_R) (x0 : Nat) (x1 : Int32) (x2 : Nat) (x3 : Int32) (x4 : Nat) (x5 : Int32) (x6 : Int32) (x7 : Int32) (x8 : Int32) (s0 : Int32) (s1 : Int32) (s2 : Nat) (s3 : Int32) (s4 : Nat) : lm_M lm_R :=
  lm_bind (lm_asV (A 75 [.ref s4, .int s3, .ref s2, .int s1, .int s0])) fun _ =>
  B (9, [(0, .ref x0), (1, .int x1), (2, .ref x2), (3, .int x3), (4, .ref x4), (5, .int x5), (6, .int x6), (7, .int x7), (8, .int (x8 + Int32.ofInt 1))], [])
set_option maxRecDepth 100000 in
theorem lm_e66_107 {sc : lm_H} {d : Nat} {x0 : Nat} {x1 : Int32} {x2 : Nat} {x3 : Int32} {x4 : Nat} {x5 : Int32} {x6 : Int32} {x7 : Int32} {x8 : Int32} {s0 : Int32} {s1 : Int32} {s2 : Nat} {s3 : Int32} {s4 : Nat} {σ : lm_S} {r : Except Nat lm_R × lm_S} (h : lm_q66_107 sc (lm_cal sc d) (lm_rn sc d lm_m66.2.2.2.2.1 (lm_reg lm_m66.2.2.2.2.2)) x0 x1 x2 x3 x4 x5 x6 x7 x8 s0 s1 s2 s3 s4 σ = some r) : lm_rn sc d lm_m66.2.2.2.2.1 (lm_reg lm_m66.2.2.2.2.2) (107, [(0, .ref x0), (1, .int x1), (2, .ref x2), (3, .int x3), (4, .ref x4), (5, .int x5), (6, .int x6), (7, .int x7), (8, .int x8)], [.int s0, .int s1, .ref s2, .int s3, .ref s4]) σ = some r := lm_rn_of h
/-- LatticeSuite.kemKeys, from 0 on -/
noncomputable def lm_q67_0 (sc : lm_H) (A : Nat → List Value → lm_M lm_R) (B : lm_F → lm_M lm_R) (x0 : Nat) (x1 : Int32) : lm_M lm_R :=
  lm_bind (lm_asV (A 132 [.int x1, .int (Int32.ofInt 0), .int (Int32.ofInt 2)])) fun _ =>
  lm_bind (lm_gR 2 x0) fun v1 =>
  lm_bind (lm_aaR sc v1 (Int32.ofInt 0)) fun v2 =>
  lm_bind (lm_gI 404 v2) fun v3 =>
  lm_if .ne v3 (Int32.ofInt 64) (B (25, [(0, .ref x0), (1, .int x1)], [.int (Int32.ofInt 0)])) (B (25, [(0, .ref x0), (1, .int x1)], [.int (Int32.ofInt 1)]))
set_option maxRecDepth 100000 in
theorem lm_e67_0 {sc : lm_H} {d : Nat} {x0 : Nat} {x1 : Int32} {σ : lm_S} {r : Except Nat lm_R × lm_S} (h : lm_q67_0 sc (lm_cal sc d) (lm_rn sc d lm_m67.2.2.2.2.1 (lm_reg lm_m67.2.2.2.2.2)) x0 x1  σ = some r) : lm_rn sc d lm_m67.2.2.2.2.1 (lm_reg lm_m67.2.2.2.2.2) (0, [(0, .ref x0), (1, .int x1)], []) σ = some r := lm_rn_of h
/-- LatticeSuite.kemKeys, from 25 on -/
noncomputable def lm_q67_25 (sc : lm_H) (A : Nat → List Value → lm_M lm_R) (B : lm_F → lm_M lm_R) (x0 : Nat) (x1 : Int32) (s0 : Int32) : lm_M lm_R :=
  lm_bind (lm_asV (A 150 [.int s0])) fun _ =>
  lm_bind (lm_gR 18 x0) fun v1 =>
  lm_bind (lm_sel [(8, 151)] (some (.ref v1))) fun y2 =>
  lm_bind (lm_asV (A y2 [.ref v1, .int x1])) fun _ =>
  lm_bind (lm_gR 18 x0) fun v3 =>
  lm_bind (lm_gR 2 x0) fun v4 =>
  lm_bind (lm_aaR sc v4 (Int32.ofInt 0)) fun v5 =>
  lm_bind (lm_gR 402 v5) fun v6 =>
  lm_bind (lm_gR 2 x0) fun v7 =>
  lm_bind (lm_aaR sc v7 (Int32.ofInt 1)) fun v8 =>
  lm_bind (lm_gR 2 x0) fun v9 =>
  lm_bind (lm_aaR sc v9 (Int32.ofInt 2)) fun v10 =>
  lm_bind (lm_sel [(8, 152)] (some (.ref v3))) fun y11 =>
  lm_bind (lm_asV (A y11 [.ref v3, .ref v6, .ref v8, .ref v10])) fun _ =>
  lm_bind (lm_gR 2 x0) fun v12 =>
  lm_bind (lm_aaR sc v12 (Int32.ofInt 2)) fun v13 =>
  lm_bind (lm_gI 404 v13) fun v14 =>
  lm_ret (some (.int v14))
set_option maxRecDepth 100000 in
theorem lm_e67_25 {sc : lm_H} {d : Nat} {x0 : Nat} {x1 : Int32} {s0 : Int32} {σ : lm_S} {r : Except Nat lm_R × lm_S} (h : lm_q67_25 sc (lm_cal sc d) (lm_rn sc d lm_m67.2.2.2.2.1 (lm_reg lm_m67.2.2.2.2.2)) x0 x1 s0 σ = some r) : lm_rn sc d lm_m67.2.2.2.2.1 (lm_reg lm_m67.2.2.2.2.2) (25, [(0, .ref x0), (1, .int x1)], [.int s0]) σ = some r := lm_rn_of h
/-- LatticeSuiteModel.kem, from 0 on -/
noncomputable def lm_q68_0 (sc : lm_H) (A : Nat → List Value → lm_M lm_R) (B : lm_F → lm_M lm_R) (x0 : Nat) (x1 : Int32) : lm_M lm_R :=
  lm_bind (lm_putf 4528 x0 (.int ((Int32.ofInt 2) + x1))) fun _ =>
  lm_if .ne x1 0 (B (17, [(0, .ref x0), (1, .int x1)], [.int (Int32.ofInt 2), .ref x0])) (B (17, [(0, .ref x0), (1, .int x1)], [.int (Int32.ofInt 3), .ref x0]))
set_option maxRecDepth 100000 in
theorem lm_e68_0 {sc : lm_H} {d : Nat} {x0 : Nat} {x1 : Int32} {σ : lm_S} {r : Except Nat lm_R × lm_S} (h : lm_q68_0 sc (lm_cal sc d) (lm_rn sc d lm_m68.2.2.2.2.1 (lm_reg lm_m68.2.2.2.2.2)) x0 x1  σ = some r) : lm_rn sc d lm_m68.2.2.2.2.1 (lm_reg lm_m68.2.2.2.2.2) (0, [(0, .ref x0), (1, .int x1)], []) σ = some r := lm_rn_of h
/-- LatticeSuiteModel.kem, from 17 on -/
noncomputable def lm_q68_17 (sc : lm_H) (A : Nat → List Value → lm_M lm_R) (B : lm_F → lm_M lm_R) (x0 : Nat) (x1 : Int32) (s0 : Int32) (s1 : Nat) : lm_M lm_R :=
  lm_bind (lm_putf 4532 s1 (.int s0)) fun _ =>
  lm_if .ne x1 (Int32.ofInt 2) (B (33, [(0, .ref x0), (1, .int x1)], [.int (Int32.ofInt 10), .ref x0])) (B (33, [(0, .ref x0), (1, .int x1)], [.int (Int32.ofInt 11), .ref x0]))
set_option maxRecDepth 100000 in
theorem lm_e68_17 {sc : lm_H} {d : Nat} {x0 : Nat} {x1 : Int32} {s0 : Int32} {s1 : Nat} {σ : lm_S} {r : Except Nat lm_R × lm_S} (h : lm_q68_17 sc (lm_cal sc d) (lm_rn sc d lm_m68.2.2.2.2.1 (lm_reg lm_m68.2.2.2.2.2)) x0 x1 s0 s1 σ = some r) : lm_rn sc d lm_m68.2.2.2.2.1 (lm_reg lm_m68.2.2.2.2.2) (17, [(0, .ref x0), (1, .int x1)], [.int s0, .ref s1]) σ = some r := lm_rn_of h
/-- LatticeSuiteModel.kem, from 33 on -/
noncomputable def lm_q68_33 (sc : lm_H) (A : Nat → List Value → lm_M lm_R) (B : lm_F → lm_M lm_R) (x0 : Nat) (x1 : Int32) (s0 : Int32) (s1 : Nat) : lm_M lm_R :=
  lm_bind (lm_putf 4536 s1 (.int s0)) fun _ =>
  lm_if .ne x1 (Int32.ofInt 2) (B (47, [(0, .ref x0)], [.int (Int32.ofInt 4), .ref x0])) (B (47, [(0, .ref x0)], [.int (Int32.ofInt 5), .ref x0]))
set_option maxRecDepth 100000 in
theorem lm_e68_33 {sc : lm_H} {d : Nat} {x0 : Nat} {x1 : Int32} {s0 : Int32} {s1 : Nat} {σ : lm_S} {r : Except Nat lm_R × lm_S} (h : lm_q68_33 sc (lm_cal sc d) (lm_rn sc d lm_m68.2.2.2.2.1 (lm_reg lm_m68.2.2.2.2.2)) x0 x1 s0 s1 σ = some r) : lm_rn sc d lm_m68.2.2.2.2.1 (lm_reg lm_m68.2.2.2.2.2) (33, [(0, .ref x0), (1, .int x1)], [.int s0, .ref s1]) σ = some r := lm_rn_of h
/-- LatticeSuiteModel.kem, from 47 on -/
noncomputable def lm_q68_47 (sc : lm_H) (A : Nat → List Value → lm_M lm_R) (B : lm_F → lm_M lm_R) (x0 : Nat) (s0 : Int32) (s1 : Nat) : lm_M lm_R :=
  lm_bind (lm_putf 4540 s1 (.int s0)) fun _ =>
  lm_bind (lm_gR 4506 x0) fun v1 =>
  lm_bind (lm_iast v1 (Int32.ofInt 0) (Int32.ofInt 1)) fun _ =>
  B (59, [(0, .ref x0), (2, .int (Int32.ofInt 1))], [])
set_option maxRecDepth 100000 in
theorem lm_e68_47 {sc : lm_H} {d : Nat} {x0 : Nat} {s0 : Int32} {s1 : Nat} {σ : lm_S} {r : Except Nat lm_R × lm_S} (h : lm_q68_47 sc (lm_cal sc d) (lm_rn sc d lm_m68.2.2.2.2.1 (lm_reg lm_m68.2.2.2.2.2)) x0 s0 s1 σ = some r) : lm_rn sc d lm_m68.2.2.2.2.1 (lm_reg lm_m68.2.2.2.2.2) (47, [(0, .ref x0)], [.int s0, .ref s1]) σ = some r := lm_rn_of h
/-- LatticeSuiteModel.kem, from 59 on -/
noncomputable def lm_q68_59 (sc : lm_H) (A : Nat → List Value → lm_M lm_R) (B : lm_F → lm_M lm_R) (x0 : Nat) (x2 : Int32) : lm_M lm_R :=
  lm_if .ge x2 (Int32.ofInt 256) (lm_ret none) (lm_bind (lm_gR 4506 x0) fun v1 =>
  lm_bind (lm_gR 4506 x0) fun v2 =>
  lm_bind (lm_iald sc v2 (x2 - (Int32.ofInt 1))) fun v3 =>
  lm_when (¬ (Int32.ofInt 3329) = 0) inferInstance (lm_bind (lm_iast v1 x2 (lm_rem (v3 * (Int32.ofInt 17)) (Int32.ofInt 3329))) fun _ =>
  B (59, [(0, .ref x0), (2, .int (x2 + Int32.ofInt 1))], [])))
set_option maxRecDepth 100000 in
theorem lm_e68_59 {sc : lm_H} {d : Nat} {x0 : Nat} {x2 : Int32} {σ : lm_S} {r : Except Nat lm_R × lm_S} (h : lm_q68_59 sc (lm_cal sc d) (lm_rn sc d lm_m68.2.2.2.2.1 (lm_reg lm_m68.2.2.2.2.2)) x0 x2  σ = some r) : lm_rn sc d lm_m68.2.2.2.2.1 (lm_reg lm_m68.2.2.2.2.2) (59, [(0, .ref x0), (2, .int x2)], []) σ = some r := lm_rn_of h
/-- LatticeSuiteModel.put, from 0 on -/
noncomputable def lm_q69_0 (sc : lm_H) (A : Nat → List Value → lm_M lm_R) (B : lm_F → lm_M lm_R) (x0 : Nat) (x1 : Int32) : lm_M lm_R :=
  lm_bind (lm_sel [(11, 148)] (some (.ref x0))) fun y1 =>
  lm_bind (lm_asI (A y1 [.ref x0])) fun v2 =>
  lm_if .eq v2 0 (lm_bind (lm_gR 4470 x0) fun v3 =>
  lm_bind (lm_gI 4480 x0) fun v4 =>
  lm_bind (lm_bast v3 v4 (lm_b8 x1)) fun _ =>
  B (30, [(0, .ref x0)], [])) (lm_bind (lm_gI 4480 x0) fun v5 =>
  lm_bind (lm_sel [(11, 153)] (some (.ref x0))) fun y6 =>
  lm_bind (lm_asV (A y6 [.ref x0, .int v5, .int x1])) fun _ =>
  B (30, [(0, .ref x0)], []))
set_option maxRecDepth 100000 in
theorem lm_e69_0 {sc : lm_H} {d : Nat} {x0 : Nat} {x1 : Int32} {σ : lm_S} {r : Except Nat lm_R × lm_S} (h : lm_q69_0 sc (lm_cal sc d) (lm_rn sc d lm_m69.2.2.2.2.1 (lm_reg lm_m69.2.2.2.2.2)) x0 x1  σ = some r) : lm_rn sc d lm_m69.2.2.2.2.1 (lm_reg lm_m69.2.2.2.2.2) (0, [(0, .ref x0), (1, .int x1)], []) σ = some r := lm_rn_of h
/-- LatticeSuiteModel.put, from 30 on -/
noncomputable def lm_q69_30 (sc : lm_H) (A : Nat → List Value → lm_M lm_R) (B : lm_F → lm_M lm_R) (x0 : Nat) : lm_M lm_R :=
  lm_bind (lm_gI 4480 x0) fun v1 =>
  lm_bind (lm_putf 4480 x0 (.int (v1 + (Int32.ofInt 1)))) fun _ =>
  lm_bind (lm_gL 4485 x0) fun v2 =>
  lm_bind (lm_putf 4485 x0 (.long (v2 + (Int64.ofNat 1)))) fun _ =>
  lm_bind (lm_gI 4480 x0) fun v3 =>
  lm_bind (lm_gI 4476 x0) fun v4 =>
  lm_if .ne v3 v4 (lm_ret none) (lm_bind (lm_sel [(11, 148)] (some (.ref x0))) fun y5 =>
  lm_bind (lm_asI (A y5 [.ref x0])) fun v6 =>
  lm_if .eq v6 0 (lm_bind (lm_gI 4476 x0) fun v7 =>
  lm_if .ne v7 (Int32.ofInt 64) (lm_bind (lm_sel [(11, 156)] (some (.ref x0))) fun y8 =>
  lm_bind (lm_asV (A y8 [.ref x0])) fun _ =>
  lm_bind (lm_putf 4480 x0 (.int (Int32.ofInt 0))) fun _ =>
  lm_ret none) (lm_bind (lm_sel [(11, 155)] (some (.ref x0))) fun y9 =>
  lm_bind (lm_asV (A y9 [.ref x0])) fun _ =>
  lm_bind (lm_putf 4480 x0 (.int (Int32.ofInt 0))) fun _ =>
  lm_ret none)) (lm_bind (lm_sel [(11, 154)] (some (.ref x0))) fun y10 =>
  lm_bind (lm_asV (A y10 [.ref x0])) fun _ =>
  lm_bind (lm_putf 4480 x0 (.int (Int32.ofInt 0))) fun _ =>
  lm_ret none))
set_option maxRecDepth 100000 in
theorem lm_e69_30 {sc : lm_H} {d : Nat} {x0 : Nat} {σ : lm_S} {r : Except Nat lm_R × lm_S} (h : lm_q69_30 sc (lm_cal sc d) (lm_rn sc d lm_m69.2.2.2.2.1 (lm_reg lm_m69.2.2.2.2.2)) x0  σ = some r) : lm_rn sc d lm_m69.2.2.2.2.1 (lm_reg lm_m69.2.2.2.2.2) (30, [(0, .ref x0)], []) σ = some r := lm_rn_of h
/-- LatticeSuiteModel.binomial, from 0 on -/
noncomputable def lm_q70_0 (sc : lm_H) (A : Nat → List Value → lm_M lm_R) (B : lm_F → lm_M lm_R) (x0 : Nat) (x1 : Nat) (x2 : Int32) (x3 : Nat) (x4 : Int32) (x5 : Int32) : lm_M lm_R :=
  lm_bind (lm_sel [(11, 61)] (some (.ref x0))) fun y1 =>
  lm_bind (lm_asV (A y1 [.ref x0, .int (Int32.ofInt 12)])) fun _ =>
  lm_bind (lm_sel [(11, 62)] (some (.ref x0))) fun y2 =>
  lm_bind (lm_asV (A y2 [.ref x0, .ref x3, .int x4, .int (Int32.ofInt 32)])) fun _ =>
  lm_bind (lm_sel [(11, 69)] (some (.ref x0))) fun y3 =>
  lm_bind (lm_asV (A y3 [.ref x0, .int x5])) fun _ =>
  lm_bind (lm_gR 4518 x0) fun v4 =>
  lm_bind (lm_sel [(11, 63)] (some (.ref x0))) fun y5 =>
  lm_bind (lm_asV (A y5 [.ref x0, .ref v4, .int (Int32.ofInt 0), .int ((Int32.ofInt 64) * x2)])) fun _ =>
  B (37, [(0, .ref x0), (1, .ref x1), (2, .int x2), (6, .int (Int32.ofInt 0))], [])
set_option maxRecDepth 100000 in
theorem lm_e70_0 {sc : lm_H} {d : Nat} {x0 : Nat} {x1 : Nat} {x2 : Int32} {x3 : Nat} {x4 : Int32} {x5 : Int32} {σ : lm_S} {r : Except Nat lm_R × lm_S} (h : lm_q70_0 sc (lm_cal sc d) (lm_rn sc d lm_m70.2.2.2.2.1 (lm_reg lm_m70.2.2.2.2.2)) x0 x1 x2 x3 x4 x5  σ = some r) : lm_rn sc d lm_m70.2.2.2.2.1 (lm_reg lm_m70.2.2.2.2.2) (0, [(0, .ref x0), (1, .ref x1), (2, .int x2), (3, .ref x3), (4, .int x4), (5, .int x5)], []) σ = some r := lm_rn_of h
/-- LatticeSuiteModel.binomial, from 37 on -/
noncomputable def lm_q70_37 (sc : lm_H) (A : Nat → List Value → lm_M lm_R) (B : lm_F → lm_M lm_R) (x0 : Nat) (x1 : Nat) (x2 : Int32) (x6 : Int32) : lm_M lm_R :=
  lm_if .ge x6 (Int32.ofInt 256) (lm_ret none) (B (51, [(0, .ref x0), (1, .ref x1), (2, .int x2), (6, .int x6), (7, .int (Int32.ofInt 0)), (8, .int (Int32.ofInt 0))], []))
set_option maxRecDepth 100000 in
theorem lm_e70_37 {sc : lm_H} {d : Nat} {x0 : Nat} {x1 : Nat} {x2 : Int32} {x6 : Int32} {σ : lm_S} {r : Except Nat lm_R × lm_S} (h : lm_q70_37 sc (lm_cal sc d) (lm_rn sc d lm_m70.2.2.2.2.1 (lm_reg lm_m70.2.2.2.2.2)) x0 x1 x2 x6  σ = some r) : lm_rn sc d lm_m70.2.2.2.2.1 (lm_reg lm_m70.2.2.2.2.2) (37, [(0, .ref x0), (1, .ref x1), (2, .int x2), (6, .int x6)], []) σ = some r := lm_rn_of h
/-- LatticeSuiteModel.binomial, from 51 on -/
noncomputable def lm_q70_51 (sc : lm_H) (A : Nat → List Value → lm_M lm_R) (B : lm_F → lm_M lm_R) (x0 : Nat) (x1 : Nat) (x2 : Int32) (x6 : Int32) (x7 : Int32) (x8 : Int32) : lm_M lm_R :=
  lm_if .ge x8 x2 (lm_when (¬ (Int32.ofInt 3329) = 0) inferInstance (lm_bind (lm_iast x1 x6 (lm_rem (x7 + (Int32.ofInt 3329)) (Int32.ofInt 3329))) fun _ =>
  B (37, [(0, .ref x0), (1, .ref x1), (2, .int x2), (6, .int (x6 + Int32.ofInt 1))], []))) (lm_bind (lm_gR 4518 x0) fun v1 =>
  lm_bind (lm_asI (A 157 [.ref v1, .int (Int32.ofInt 0), .int ((((Int32.ofInt 2) * x6) * x2) + x8)])) fun v2 =>
  lm_bind (lm_gR 4518 x0) fun v3 =>
  lm_bind (lm_asI (A 157 [.ref v3, .int (Int32.ofInt 0), .int (((((Int32.ofInt 2) * x6) * x2) + x2) + x8)])) fun v4 =>
  B (51, [(0, .ref x0), (1, .ref x1), (2, .int x2), (6, .int x6), (7, .int (x7 + (v2 - v4))), (8, .int (x8 + Int32.ofInt 1))], []))
set_option maxRecDepth 100000 in
theorem lm_e70_51 {sc : lm_H} {d : Nat} {x0 : Nat} {x1 : Nat} {x2 : Int32} {x6 : Int32} {x7 : Int32} {x8 : Int32} {σ : lm_S} {r : Except Nat lm_R × lm_S} (h : lm_q70_51 sc (lm_cal sc d) (lm_rn sc d lm_m70.2.2.2.2.1 (lm_reg lm_m70.2.2.2.2.2)) x0 x1 x2 x6 x7 x8  σ = some r) : lm_rn sc d lm_m70.2.2.2.2.1 (lm_reg lm_m70.2.2.2.2.2) (51, [(0, .ref x0), (1, .ref x1), (2, .int x2), (6, .int x6), (7, .int x7), (8, .int x8)], []) σ = some r := lm_rn_of h
/-- LatticeSuiteModel.ntt, from 0 on -/
noncomputable def lm_q71_0 (sc : lm_H) (A : Nat → List Value → lm_M lm_R) (B : lm_F → lm_M lm_R) (x0 : Nat) (x1 : Nat) : lm_M lm_R :=
  B (2, [(0, .ref x0), (1, .ref x1), (2, .int (Int32.ofInt 0))], [])
set_option maxRecDepth 100000 in
theorem lm_e71_0 {sc : lm_H} {d : Nat} {x0 : Nat} {x1 : Nat} {σ : lm_S} {r : Except Nat lm_R × lm_S} (h : lm_q71_0 sc (lm_cal sc d) (lm_rn sc d lm_m71.2.2.2.2.1 (lm_reg lm_m71.2.2.2.2.2)) x0 x1  σ = some r) : lm_rn sc d lm_m71.2.2.2.2.1 (lm_reg lm_m71.2.2.2.2.2) (0, [(0, .ref x0), (1, .ref x1)], []) σ = some r := lm_rn_of h
/-- LatticeSuiteModel.ntt, from 2 on -/
noncomputable def lm_q71_2 (sc : lm_H) (A : Nat → List Value → lm_M lm_R) (B : lm_F → lm_M lm_R) (x0 : Nat) (x1 : Nat) (x2 : Int32) : lm_M lm_R :=
  lm_if .ge x2 (Int32.ofInt 128) (B (129, [(0, .ref x0), (1, .ref x1), (2, .int (Int32.ofInt 0))], [])) (lm_bind (lm_asI (A 158 [.int x2, .int (Int32.ofInt 7)])) fun v1 =>
  B (29, [(0, .ref x0), (1, .ref x1), (2, .int x2), (3, .int (((Int32.ofInt 2) * v1) + (Int32.ofInt 1))), (4, .long (Int64.ofNat 0)), (6, .long (Int64.ofNat 0)), (8, .int (Int32.ofInt 0))], []))
set_option maxRecDepth 100000 in
theorem lm_e71_2 {sc : lm_H} {d : Nat} {x0 : Nat} {x1 : Nat} {x2 : Int32} {σ : lm_S} {r : Except Nat lm_R × lm_S} (h : lm_q71_2 sc (lm_cal sc d) (lm_rn sc d lm_m71.2.2.2.2.1 (lm_reg lm_m71.2.2.2.2.2)) x0 x1 x2  σ = some r) : lm_rn sc d lm_m71.2.2.2.2.1 (lm_reg lm_m71.2.2.2.2.2) (2, [(0, .ref x0), (1, .ref x1), (2, .int x2)], []) σ = some r := lm_rn_of h
/-- LatticeSuiteModel.ntt, from 129 on -/
noncomputable def lm_q71_129 (sc : lm_H) (A : Nat → List Value → lm_M lm_R) (B : lm_F → lm_M lm_R) (x0 : Nat) (x1 : Nat) (x2 : Int32) : lm_M lm_R :=
  lm_if .ge x2 (Int32.ofInt 256) (lm_ret none) (lm_bind (lm_gR 4502 x0) fun v1 =>
  lm_bind (lm_lald sc v1 x2) fun v2 =>
  lm_bind (lm_iast x1 x2 (Int64.toInt32 v2)) fun _ =>
  B (129, [(0, .ref x0), (1, .ref x1), (2, .int (x2 + Int32.ofInt 1))], []))
set_option maxRecDepth 100000 in
theorem lm_e71_129 {sc : lm_H} {d : Nat} {x0 : Nat} {x1 : Nat} {x2 : Int32} {σ : lm_S} {r : Except Nat lm_R × lm_S} (h : lm_q71_129 sc (lm_cal sc d) (lm_rn sc d lm_m71.2.2.2.2.1 (lm_reg lm_m71.2.2.2.2.2)) x0 x1 x2  σ = some r) : lm_rn sc d lm_m71.2.2.2.2.1 (lm_reg lm_m71.2.2.2.2.2) (129, [(0, .ref x0), (1, .ref x1), (2, .int x2)], []) σ = some r := lm_rn_of h
/-- LatticeSuiteModel.ntt, from 29 on -/
noncomputable def lm_q71_29 (sc : lm_H) (A : Nat → List Value → lm_M lm_R) (B : lm_F → lm_M lm_R) (x0 : Nat) (x1 : Nat) (x2 : Int32) (x3 : Int32) (x4 : Int64) (x6 : Int64) (x8 : Int32) : lm_M lm_R :=
  lm_if .ge x8 (Int32.ofInt 128) (lm_bind (lm_gR 4502 x0) fun v1 =>
  lm_when (¬ (Int64.ofNat 3329) = 0) inferInstance (lm_bind (lm_last v1 ((Int32.ofInt 2) * x2) (lm_remL x4 (Int64.ofNat 3329))) fun _ =>
  lm_bind (lm_gR 4502 x0) fun v2 =>
  lm_when (¬ (Int64.ofNat 3329) = 0) inferInstance (lm_bind (lm_last v2 (((Int32.ofInt 2) * x2) + (Int32.ofInt 1)) (lm_remL x6 (Int64.ofNat 3329))) fun _ =>
  B (2, [(0, .ref x0), (1, .ref x1), (2, .int (x2 + Int32.ofInt 1))], [])))) (lm_bind (lm_gR 4506 x0) fun v3 =>
  lm_when (¬ (Int32.ofInt 256) = 0) inferInstance (lm_bind (lm_iald sc v3 (lm_rem (x3 * x8) (Int32.ofInt 256))) fun v4 =>
  lm_bind (lm_iald sc x1 ((Int32.ofInt 2) * x8)) fun v5 =>
  lm_bind (lm_iald sc x1 (((Int32.ofInt 2) * x8) + (Int32.ofInt 1))) fun v6 =>
  B (29, [(0, .ref x0), (1, .ref x1), (2, .int x2), (3, .int x3), (4, .long (x4 + ((Int32.toInt64 v5) * (Int32.toInt64 v4)))), (6, .long (x6 + ((Int32.toInt64 v6) * (Int32.toInt64 v4)))), (8, .int (x8 + Int32.ofInt 1))], [])))
set_option maxRecDepth 100000 in
theorem lm_e71_29 {sc : lm_H} {d : Nat} {x0 : Nat} {x1 : Nat} {x2 : Int32} {x3 : Int32} {x4 : Int64} {x6 : Int64} {x8 : Int32} {σ : lm_S} {r : Except Nat lm_R × lm_S} (h : lm_q71_29 sc (lm_cal sc d) (lm_rn sc d lm_m71.2.2.2.2.1 (lm_reg lm_m71.2.2.2.2.2)) x0 x1 x2 x3 x4 x6 x8  σ = some r) : lm_rn sc d lm_m71.2.2.2.2.1 (lm_reg lm_m71.2.2.2.2.2) (29, [(0, .ref x0), (1, .ref x1), (2, .int x2), (3, .int x3), (4, .long x4), (6, .long x6), (8, .int x8)], []) σ = some r := lm_rn_of h
/-- LatticeSuiteModel.sample, from 0 on -/
noncomputable def lm_q72_0 (sc : lm_H) (A : Nat → List Value → lm_M lm_R) (B : lm_F → lm_M lm_R) (x0 : Nat) (x1 : Nat) (x2 : Nat) (x3 : Int32) (x4 : Int32) (x5 : Int32) : lm_M lm_R :=
  lm_bind (lm_sel [(11, 61)] (some (.ref x0))) fun y1 =>
  lm_bind (lm_asV (A y1 [.ref x0, .int (Int32.ofInt 11)])) fun _ =>
  lm_bind (lm_sel [(11, 62)] (some (.ref x0))) fun y2 =>
  lm_bind (lm_asV (A y2 [.ref x0, .ref x2, .int x3, .int (Int32.ofInt 32)])) fun _ =>
  lm_bind (lm_sel [(11, 69)] (some (.ref x0))) fun y3 =>
  lm_bind (lm_asV (A y3 [.ref x0, .int x4])) fun _ =>
  lm_bind (lm_sel [(11, 69)] (some (.ref x0))) fun y4 =>
  lm_bind (lm_asV (A y4 [.ref x0, .int x5])) fun _ =>
  lm_bind (lm_sel [(11, 147)] (some (.ref x0))) fun y5 =>
  lm_bind (lm_asV (A y5 [.ref x0])) fun _ =>
  B (36, [(0, .ref x0), (1, .ref x1), (6, .int (Int32.ofInt 0)), (7, .int (Int32.ofInt 0))], [])
set_option maxRecDepth 100000 in
theorem lm_e72_0 {sc : lm_H} {d : Nat} {x0 : Nat} {x1 : Nat} {x2 : Nat} {x3 : Int32} {x4 : Int32} {x5 : Int32} {σ : lm_S} {r : Except Nat lm_R × lm_S} (h : lm_q72_0 sc (lm_cal sc d) (lm_rn sc d lm_m72.2.2.2.2.1 (lm_reg lm_m72.2.2.2.2.2)) x0 x1 x2 x3 x4 x5  σ = some r) : lm_rn sc d lm_m72.2.2.2.2.1 (lm_reg lm_m72.2.2.2.2.2) (0, [(0, .ref x0), (1, .ref x1), (2, .ref x2), (3, .int x3), (4, .int x4), (5, .int x5)], []) σ = some r := lm_rn_of h
/-- LatticeSuiteModel.sample, from 36 on -/
noncomputable def lm_q72_36 (sc : lm_H) (A : Nat → List Value → lm_M lm_R) (B : lm_F → lm_M lm_R) (x0 : Nat) (x1 : Nat) (x6 : Int32) (x7 : Int32) : lm_M lm_R :=
  lm_if .ge x7 (Int32.ofInt 280) (B (156, [(6, .int x6)], [])) (lm_if .ge x6 (Int32.ofInt 256) (B (156, [(6, .int x6)], [])) (lm_bind (lm_sel [(11, 149)] (some (.ref x0))) fun y1 =>
  lm_bind (lm_asI (A y1 [.ref x0])) fun v2 =>
  lm_bind (lm_sel [(11, 149)] (some (.ref x0))) fun y3 =>
  lm_bind (lm_asI (A y3 [.ref x0])) fun v4 =>
  lm_bind (lm_sel [(11, 149)] (some (.ref x0))) fun y5 =>
  lm_bind (lm_asI (A y5 [.ref x0])) fun v6 =>
  lm_when (¬ (Int32.ofInt 16) = 0) inferInstance (lm_if .ge (v2 + ((Int32.ofInt 256) * (lm_rem v4 (Int32.ofInt 16)))) (Int32.ofInt 3329) (B (107, [(0, .ref x0), (1, .ref x1), (6, .int x6), (7, .int x7), (9, .int v4), (10, .int v6)], [])) (lm_when (¬ (Int32.ofInt 16) = 0) inferInstance (lm_bind (lm_iast x1 x6 (v2 + ((Int32.ofInt 256) * (lm_rem v4 (Int32.ofInt 16))))) fun _ =>
  B (107, [(0, .ref x0), (1, .ref x1), (6, .int (x6 + Int32.ofInt 1)), (7, .int x7), (9, .int v4), (10, .int v6)], []))))))
set_option maxRecDepth 100000 in
theorem lm_e72_36 {sc : lm_H} {d : Nat} {x0 : Nat} {x1 : Nat} {x6 : Int32} {x7 : Int32} {σ : lm_S} {r : Except Nat lm_R × lm_S} (h : lm_q72_36 sc (lm_cal sc d) (lm_rn sc d lm_m72.2.2.2.2.1 (lm_reg lm_m72.2.2.2.2.2)) x0 x1 x6 x7  σ = some r) : lm_rn sc d lm_m72.2.2.2.2.1 (lm_reg lm_m72.2.2.2.2.2) (36, [(0, .ref x0), (1, .ref x1), (6, .int x6), (7, .int x7)], []) σ = some r := lm_rn_of h
/-- LatticeSuiteModel.sample, from 156 on -/
noncomputable def lm_q72_156 (sc : lm_H) (A : Nat → List Value → lm_M lm_R) (B : lm_F → lm_M lm_R) (x6 : Int32) : lm_M lm_R :=
  lm_if .ne x6 (Int32.ofInt 256) (lm_when ((Int32.ofInt 0) = 0 ∨ (Int32.ofInt 0) = 1) inferInstance (lm_ret (some (.int (Int32.ofInt 0))))) (lm_when ((Int32.ofInt 1) = 0 ∨ (Int32.ofInt 1) = 1) inferInstance (lm_ret (some (.int (Int32.ofInt 1)))))
set_option maxRecDepth 100000 in
theorem lm_e72_156 {sc : lm_H} {d : Nat} {x6 : Int32} {σ : lm_S} {r : Except Nat lm_R × lm_S} (h : lm_q72_156 sc (lm_cal sc d) (lm_rn sc d lm_m72.2.2.2.2.1 (lm_reg lm_m72.2.2.2.2.2)) x6  σ = some r) : lm_rn sc d lm_m72.2.2.2.2.1 (lm_reg lm_m72.2.2.2.2.2) (156, [(6, .int x6)], []) σ = some r := lm_rn_of h
/-- LatticeSuiteModel.sample, from 107 on -/
noncomputable def lm_q72_107 (sc : lm_H) (A : Nat → List Value → lm_M lm_R) (B : lm_F → lm_M lm_R) (x0 : Nat) (x1 : Nat) (x6 : Int32) (x7 : Int32) (x9 : Int32) (x10 : Int32) : lm_M lm_R :=
  lm_if .ge x6 (Int32.ofInt 256) (B (150, [(0, .ref x0), (1, .ref x1), (6, .int x6), (7, .int x7)], [])) (lm_when (¬ (Int32.ofInt 16) = 0) inferInstance (lm_if .ge ((x9 / (Int32.ofInt 16)) + ((Int32.ofInt 16) * x10)) (Int32.ofInt 3329) (B (150, [(0, .ref x0), (1, .ref x1), (6, .int x6), (7, .int x7)], [])) (lm_when (¬ (Int32.ofInt 16) = 0) inferInstance (lm_bind (lm_iast x1 x6 ((x9 / (Int32.ofInt 16)) + ((Int32.ofInt 16) * x10))) fun _ =>
  B (150, [(0, .ref x0), (1, .ref x1), (6, .int (x6 + Int32.ofInt 1)), (7, .int x7)], [])))))
set_option maxRecDepth 100000 in
theorem lm_e72_107 {sc : lm_H} {d : Nat} {x0 : Nat} {x1 : Nat} {x6 : Int32} {x7 : Int32} {x9 : Int32} {x10 : Int32} {σ : lm_S} {r : Except Nat lm_R × lm_S} (h : lm_q72_107 sc (lm_cal sc d) (lm_rn sc d lm_m72.2.2.2.2.1 (lm_reg lm_m72.2.2.2.2.2)) x0 x1 x6 x7 x9 x10  σ = some r) : lm_rn sc d lm_m72.2.2.2.2.1 (lm_reg lm_m72.2.2.2.2.2) (107, [(0, .ref x0), (1, .ref x1), (6, .int x6), (7, .int x7), (9, .int x9), (10, .int x10)], []) σ = some r := lm_rn_of h
/-- LatticeSuiteModel.sample, from 150 on -/
noncomputable def lm_q72_150 (sc : lm_H) (A : Nat → List Value → lm_M lm_R) (B : lm_F → lm_M lm_R) (x0 : Nat) (x1 : Nat) (x6 : Int32) (x7 : Int32) : lm_M lm_R :=
  B (36, [(0, .ref x0), (1, .ref x1), (6, .int x6), (7, .int (x7 + Int32.ofInt 1))], [])
set_option maxRecDepth 100000 in
theorem lm_e72_150 {sc : lm_H} {d : Nat} {x0 : Nat} {x1 : Nat} {x6 : Int32} {x7 : Int32} {σ : lm_S} {r : Except Nat lm_R × lm_S} (h : lm_q72_150 sc (lm_cal sc d) (lm_rn sc d lm_m72.2.2.2.2.1 (lm_reg lm_m72.2.2.2.2.2)) x0 x1 x6 x7  σ = some r) : lm_rn sc d lm_m72.2.2.2.2.1 (lm_reg lm_m72.2.2.2.2.2) (150, [(0, .ref x0), (1, .ref x1), (6, .int x6), (7, .int x7)], []) σ = some r := lm_rn_of h
/-- LatticeSuiteModel.addProduct, from 0 on -/
noncomputable def lm_q73_0 (sc : lm_H) (A : Nat → List Value → lm_M lm_R) (B : lm_F → lm_M lm_R) (x0 : Nat) (x1 : Nat) (x2 : Nat) (x3 : Nat) : lm_M lm_R :=
  B (3, [(0, .ref x0), (1, .ref x1), (2, .ref x2), (3, .ref x3), (4, .int (Int32.ofInt 0))], [])
set_option maxRecDepth 100000 in
theorem lm_e73_0 {sc : lm_H} {d : Nat} {x0 : Nat} {x1 : Nat} {x2 : Nat} {x3 : Nat} {σ : lm_S} {r : Except Nat lm_R × lm_S} (h : lm_q73_0 sc (lm_cal sc d) (lm_rn sc d lm_m73.2.2.2.2.1 (lm_reg lm_m73.2.2.2.2.2)) x0 x1 x2 x3  σ = some r) : lm_rn sc d lm_m73.2.2.2.2.1 (lm_reg lm_m73.2.2.2.2.2) (0, [(0, .ref x0), (1, .ref x1), (2, .ref x2), (3, .ref x3)], []) σ = some r := lm_rn_of h
/-- LatticeSuiteModel.addProduct, from 3 on -/
noncomputable def lm_q73_3 (sc : lm_H) (A : Nat → List Value → lm_M lm_R) (B : lm_F → lm_M lm_R) (x0 : Nat) (x1 : Nat) (x2 : Nat) (x3 : Nat) (x4 : Int32) : lm_M lm_R :=
  lm_if .ge x4 (Int32.ofInt 128) (lm_ret none) (lm_bind (lm_gR 4506 x0) fun v1 =>
  lm_bind (lm_asI (A 158 [.int x4, .int (Int32.ofInt 7)])) fun v2 =>
  lm_bind (lm_iald sc v1 (((Int32.ofInt 2) * v2) + (Int32.ofInt 1))) fun v3 =>
  lm_bind (lm_iald sc x2 ((Int32.ofInt 2) * x4)) fun v4 =>
  lm_bind (lm_iald sc x2 (((Int32.ofInt 2) * x4) + (Int32.ofInt 1))) fun v5 =>
  lm_bind (lm_iald sc x3 ((Int32.ofInt 2) * x4)) fun v6 =>
  lm_bind (lm_iald sc x3 (((Int32.ofInt 2) * x4) + (Int32.ofInt 1))) fun v7 =>
  lm_bind (lm_iald sc x1 ((Int32.ofInt 2) * x4)) fun v8 =>
  lm_when (¬ (Int64.ofNat 3329) = 0) inferInstance (lm_when (¬ (Int64.ofNat 3329) = 0) inferInstance (lm_bind (lm_iast x1 ((Int32.ofInt 2) * x4) (Int64.toInt32 (lm_remL (((Int32.toInt64 v8) + ((Int32.toInt64 v4) * (Int32.toInt64 v6))) + ((lm_remL ((Int32.toInt64 v5) * (Int32.toInt64 v7)) (Int64.ofNat 3329)) * (Int32.toInt64 v3))) (Int64.ofNat 3329)))) fun _ =>
  lm_bind (lm_iald sc x1 (((Int32.ofInt 2) * x4) + (Int32.ofInt 1))) fun v9 =>
  lm_when (¬ (Int64.ofNat 3329) = 0) inferInstance (lm_bind (lm_iast x1 (((Int32.ofInt 2) * x4) + (Int32.ofInt 1)) (Int64.toInt32 (lm_remL (((Int32.toInt64 v9) + ((Int32.toInt64 v4) * (Int32.toInt64 v7))) + ((Int32.toInt64 v5) * (Int32.toInt64 v6))) (Int64.ofNat 3329)))) fun _ =>
  B (3, [(0, .ref x0), (1, .ref x1), (2, .ref x2), (3, .ref x3), (4, .int (x4 + Int32.ofInt 1))], [])))))
set_option maxRecDepth 100000 in
theorem lm_e73_3 {sc : lm_H} {d : Nat} {x0 : Nat} {x1 : Nat} {x2 : Nat} {x3 : Nat} {x4 : Int32} {σ : lm_S} {r : Except Nat lm_R × lm_S} (h : lm_q73_3 sc (lm_cal sc d) (lm_rn sc d lm_m73.2.2.2.2.1 (lm_reg lm_m73.2.2.2.2.2)) x0 x1 x2 x3 x4  σ = some r) : lm_rn sc d lm_m73.2.2.2.2.1 (lm_reg lm_m73.2.2.2.2.2) (3, [(0, .ref x0), (1, .ref x1), (2, .ref x2), (3, .ref x3), (4, .int x4)], []) σ = some r := lm_rn_of h
/-- LatticeSuiteModel.putBits, from 0 on -/
noncomputable def lm_q74_0 (sc : lm_H) (A : Nat → List Value → lm_M lm_R) (B : lm_F → lm_M lm_R) (x0 : Nat) (x1 : Nat) (x2 : Int32) (x3 : Int32) (x4 : Int32) : lm_M lm_R :=
  B (3, [(0, .ref x0), (1, .ref x1), (2, .int x2), (3, .int x3), (4, .int x4), (5, .int (Int32.ofInt 0))], [])
set_option maxRecDepth 100000 in
theorem lm_e74_0 {sc : lm_H} {d : Nat} {x0 : Nat} {x1 : Nat} {x2 : Int32} {x3 : Int32} {x4 : Int32} {σ : lm_S} {r : Except Nat lm_R × lm_S} (h : lm_q74_0 sc (lm_cal sc d) (lm_rn sc d lm_m74.2.2.2.2.1 (lm_reg lm_m74.2.2.2.2.2)) x0 x1 x2 x3 x4  σ = some r) : lm_rn sc d lm_m74.2.2.2.2.1 (lm_reg lm_m74.2.2.2.2.2) (0, [(0, .ref x0), (1, .ref x1), (2, .int x2), (3, .int x3), (4, .int x4)], []) σ = some r := lm_rn_of h
/-- LatticeSuiteModel.putBits, from 3 on -/
noncomputable def lm_q74_3 (sc : lm_H) (A : Nat → List Value → lm_M lm_R) (B : lm_F → lm_M lm_R) (x0 : Nat) (x1 : Nat) (x2 : Int32) (x3 : Int32) (x4 : Int32) (x5 : Int32) : lm_M lm_R :=
  lm_if .ge x5 x4 (lm_bind (lm_gI 4496 x0) fun v1 =>
  lm_bind (lm_putf 4496 x0 (.int (v1 + x4))) fun _ =>
  lm_ret none) (lm_bind (lm_gI 4496 x0) fun v2 =>
  lm_when (¬ (Int32.ofInt 8) = 0) inferInstance (lm_if .ne (lm_rem (v2 + x5) (Int32.ofInt 8)) 0 (B (37, [(0, .ref x0), (1, .ref x1), (2, .int x2), (3, .int x3), (4, .int x4), (5, .int x5), (6, .int (v2 + x5))], [])) (lm_when (¬ (Int32.ofInt 8) = 0) inferInstance (lm_bind (lm_bast x1 (x2 + ((v2 + x5) / (Int32.ofInt 8))) (Int32.ofInt 0)) fun _ =>
  B (37, [(0, .ref x0), (1, .ref x1), (2, .int x2), (3, .int x3), (4, .int x4), (5, .int x5), (6, .int (v2 + x5))], [])))))
set_option maxRecDepth 100000 in
theorem lm_e74_3 {sc : lm_H} {d : Nat} {x0 : Nat} {x1 : Nat} {x2 : Int32} {x3 : Int32} {x4 : Int32} {x5 : Int32} {σ : lm_S} {r : Except Nat lm_R × lm_S} (h : lm_q74_3 sc (lm_cal sc d) (lm_rn sc d lm_m74.2.2.2.2.1 (lm_reg lm_m74.2.2.2.2.2)) x0 x1 x2 x3 x4 x5  σ = some r) : lm_rn sc d lm_m74.2.2.2.2.1 (lm_reg lm_m74.2.2.2.2.2) (3, [(0, .ref x0), (1, .ref x1), (2, .int x2), (3, .int x3), (4, .int x4), (5, .int x5)], []) σ = some r := lm_rn_of h
/-- LatticeSuiteModel.putBits, from 37 on -/
noncomputable def lm_q74_37 (sc : lm_H) (A : Nat → List Value → lm_M lm_R) (B : lm_F → lm_M lm_R) (x0 : Nat) (x1 : Nat) (x2 : Int32) (x3 : Int32) (x4 : Int32) (x5 : Int32) (x6 : Int32) : lm_M lm_R :=
  lm_when (¬ (Int32.ofInt 8) = 0) inferInstance (lm_bind (lm_bald sc x1 (x2 + (x6 / (Int32.ofInt 8)))) fun v1 =>
  lm_when (¬ (Int32.ofInt 8) = 0) inferInstance (lm_bind (lm_bast x1 (x2 + (x6 / (Int32.ofInt 8))) (lm_b8 (v1 ||| (lm_b8 (((x3 >>> (x5 &&& 31)) &&& (Int32.ofInt 1)) <<< ((lm_rem x6 (Int32.ofInt 8)) &&& 31)))))) fun _ =>
  B (3, [(0, .ref x0), (1, .ref x1), (2, .int x2), (3, .int x3), (4, .int x4), (5, .int (x5 + Int32.ofInt 1))], [])))
set_option maxRecDepth 100000 in
theorem lm_e74_37 {sc : lm_H} {d : Nat} {x0 : Nat} {x1 : Nat} {x2 : Int32} {x3 : Int32} {x4 : Int32} {x5 : Int32} {x6 : Int32} {σ : lm_S} {r : Except Nat lm_R × lm_S} (h : lm_q74_37 sc (lm_cal sc d) (lm_rn sc d lm_m74.2.2.2.2.1 (lm_reg lm_m74.2.2.2.2.2)) x0 x1 x2 x3 x4 x5 x6  σ = some r) : lm_rn sc d lm_m74.2.2.2.2.1 (lm_reg lm_m74.2.2.2.2.2) (37, [(0, .ref x0), (1, .ref x1), (2, .int x2), (3, .int x3), (4, .int x4), (5, .int x5), (6, .int x6)], []) σ = some r := lm_rn_of h
/-- LatticeSuiteModel.move, from 0 on -/
noncomputable def lm_q75_0 (sc : lm_H) (A : Nat → List Value → lm_M lm_R) (B : lm_F → lm_M lm_R) (x0 : Nat) (x1 : Int32) (x2 : Nat) (x3 : Int32) (x4 : Int32) : lm_M lm_R :=
  B (3, [(0, .ref x0), (1, .int x1), (2, .ref x2), (3, .int x3), (4, .int x4), (5, .int (Int32.ofInt 0))], [])
set_option maxRecDepth 100000 in
theorem lm_e75_0 {sc : lm_H} {d : Nat} {x0 : Nat} {x1 : Int32} {x2 : Nat} {x3 : Int32} {x4 : Int32} {σ : lm_S} {r : Except Nat lm_R × lm_S} (h : lm_q75_0 sc (lm_cal sc d) (lm_rn sc d lm_m75.2.2.2.2.1 (lm_reg lm_m75.2.2.2.2.2)) x0 x1 x2 x3 x4  σ = some r) : lm_rn sc d lm_m75.2.2.2.2.1 (lm_reg lm_m75.2.2.2.2.2) (0, [(0, .ref x0), (1, .int x1), (2, .ref x2), (3, .int x3), (4, .int x4)], []) σ = some r := lm_rn_of h
/-- LatticeSuiteModel.move, from 3 on -/
noncomputable def lm_q75_3 (sc : lm_H) (A : Nat → List Value → lm_M lm_R) (B : lm_F → lm_M lm_R) (x0 : Nat) (x1 : Int32) (x2 : Nat) (x3 : Int32) (x4 : Int32) (x5 : Int32) : lm_M lm_R :=
  lm_if .ge x5 x4 (lm_ret none) (lm_bind (lm_bald sc x0 (x1 + x5)) fun v1 =>
  lm_bind (lm_bast x2 (x3 + x5) v1) fun _ =>
  B (3, [(0, .ref x0), (1, .int x1), (2, .ref x2), (3, .int x3), (4, .int x4), (5, .int (x5 + Int32.ofInt 1))], []))
set_option maxRecDepth 100000 in
theorem lm_e75_3 {sc : lm_H} {d : Nat} {x0 : Nat} {x1 : Int32} {x2 : Nat} {x3 : Int32} {x4 : Int32} {x5 : Int32} {σ : lm_S} {r : Except Nat lm_R × lm_S} (h : lm_q75_3 sc (lm_cal sc d) (lm_rn sc d lm_m75.2.2.2.2.1 (lm_reg lm_m75.2.2.2.2.2)) x0 x1 x2 x3 x4 x5  σ = some r) : lm_rn sc d lm_m75.2.2.2.2.1 (lm_reg lm_m75.2.2.2.2.2) (3, [(0, .ref x0), (1, .int x1), (2, .ref x2), (3, .int x3), (4, .int x4), (5, .int x5)], []) σ = some r := lm_rn_of h
/-- LatticeSuite.kemWrap, from 0 on -/
noncomputable def lm_q76_0 (sc : lm_H) (A : Nat → List Value → lm_M lm_R) (B : lm_F → lm_M lm_R) (x0 : Nat) (x1 : Int32) : lm_M lm_R :=
  lm_bind (lm_asV (A 132 [.int x1, .int (Int32.ofInt 0), .int (Int32.ofInt 2)])) fun _ =>
  lm_bind (lm_gR 2 x0) fun v1 =>
  lm_bind (lm_aaR sc v1 (Int32.ofInt 0)) fun v2 =>
  lm_bind (lm_gI 404 v2) fun v3 =>
  lm_if .ne v3 (Int32.ofInt 32) (B (25, [(0, .ref x0), (1, .int x1)], [.int (Int32.ofInt 0)])) (B (25, [(0, .ref x0), (1, .int x1)], [.int (Int32.ofInt 1)]))
set_option maxRecDepth 100000 in
theorem lm_e76_0 {sc : lm_H} {d : Nat} {x0 : Nat} {x1 : Int32} {σ : lm_S} {r : Except Nat lm_R × lm_S} (h : lm_q76_0 sc (lm_cal sc d) (lm_rn sc d lm_m76.2.2.2.2.1 (lm_reg lm_m76.2.2.2.2.2)) x0 x1  σ = some r) : lm_rn sc d lm_m76.2.2.2.2.1 (lm_reg lm_m76.2.2.2.2.2) (0, [(0, .ref x0), (1, .int x1)], []) σ = some r := lm_rn_of h
/-- LatticeSuite.kemWrap, from 25 on -/
noncomputable def lm_q76_25 (sc : lm_H) (A : Nat → List Value → lm_M lm_R) (B : lm_F → lm_M lm_R) (x0 : Nat) (x1 : Int32) (s0 : Int32) : lm_M lm_R :=
  lm_bind (lm_asV (A 150 [.int s0])) fun _ =>
  lm_bind (lm_gR 18 x0) fun v1 =>
  lm_bind (lm_sel [(8, 151)] (some (.ref v1))) fun y2 =>
  lm_bind (lm_asV (A y2 [.ref v1, .int x1])) fun _ =>
  lm_bind (lm_gR 18 x0) fun v3 =>
  lm_bind (lm_gR 2 x0) fun v4 =>
  lm_bind (lm_aaR sc v4 (Int32.ofInt 1)) fun v5 =>
  lm_bind (lm_sel [(8, 159)] (some (.ref v3))) fun y6 =>
  lm_bind (lm_asI (A y6 [.ref v3, .ref v5])) fun v7 =>
  lm_bind (lm_asV (A 160 [.int v7])) fun _ =>
  lm_bind (lm_gR 18 x0) fun v8 =>
  lm_bind (lm_gR 2 x0) fun v9 =>
  lm_bind (lm_aaR sc v9 (Int32.ofInt 1)) fun v10 =>
  lm_bind (lm_gR 402 v10) fun v11 =>
  lm_bind (lm_gR 2 x0) fun v12 =>
  lm_bind (lm_aaR sc v12 (Int32.ofInt 0)) fun v13 =>
  lm_bind (lm_gR 402 v13) fun v14 =>
  lm_bind (lm_gR 2 x0) fun v15 =>
  lm_bind (lm_aaR sc v15 (Int32.ofInt 5)) fun v16 =>
  lm_bind (lm_gR 2 x0) fun v17 =>
  lm_bind (lm_aaR sc v17 (Int32.ofInt 6)) fun v18 =>
  lm_bind (lm_sel [(8, 161)] (some (.ref v8))) fun y19 =>
  lm_bind (lm_asV (A y19 [.ref v8, .ref v11, .ref v14, .ref v16, .ref v18])) fun _ =>
  lm_bind (lm_gR 2 x0) fun v20 =>
  lm_bind (lm_aaR sc v20 (Int32.ofInt 5)) fun v21 =>
  lm_bind (lm_gI 404 v21) fun v22 =>
  lm_ret (some (.int v22))
set_option maxRecDepth 100000 in
theorem lm_e76_25 {sc : lm_H} {d : Nat} {x0 : Nat} {x1 : Int32} {s0 : Int32} {σ : lm_S} {r : Except Nat lm_R × lm_S} (h : lm_q76_25 sc (lm_cal sc d) (lm_rn sc d lm_m76.2.2.2.2.1 (lm_reg lm_m76.2.2.2.2.2)) x0 x1 s0 σ = some r) : lm_rn sc d lm_m76.2.2.2.2.1 (lm_reg lm_m76.2.2.2.2.2) (25, [(0, .ref x0), (1, .int x1)], [.int s0]) σ = some r := lm_rn_of h
/-- LatticeSuiteModel.takeBits, from 0 on -/
noncomputable def lm_q77_0 (sc : lm_H) (A : Nat → List Value → lm_M lm_R) (B : lm_F → lm_M lm_R) (x0 : Nat) (x1 : Nat) (x2 : Int32) (x3 : Int32) : lm_M lm_R :=
  B (6, [(0, .ref x0), (1, .ref x1), (2, .int x2), (3, .int x3), (4, .int (Int32.ofInt 0)), (5, .int (Int32.ofInt 0))], [])
set_option maxRecDepth 100000 in
theorem lm_e77_0 {sc : lm_H} {d : Nat} {x0 : Nat} {x1 : Nat} {x2 : Int32} {x3 : Int32} {σ : lm_S} {r : Except Nat lm_R × lm_S} (h : lm_q77_0 sc (lm_cal sc d) (lm_rn sc d lm_m77.2.2.2.2.1 (lm_reg lm_m77.2.2.2.2.2)) x0 x1 x2 x3  σ = some r) : lm_rn sc d lm_m77.2.2.2.2.1 (lm_reg lm_m77.2.2.2.2.2) (0, [(0, .ref x0), (1, .ref x1), (2, .int x2), (3, .int x3)], []) σ = some r := lm_rn_of h
/-- LatticeSuiteModel.takeBits, from 6 on -/
noncomputable def lm_q77_6 (sc : lm_H) (A : Nat → List Value → lm_M lm_R) (B : lm_F → lm_M lm_R) (x0 : Nat) (x1 : Nat) (x2 : Int32) (x3 : Int32) (x4 : Int32) (x5 : Int32) : lm_M lm_R :=
  lm_if .ge x5 x3 (lm_bind (lm_gI 4496 x0) fun v1 =>
  lm_bind (lm_putf 4496 x0 (.int (v1 + x3))) fun _ =>
  lm_ret (some (.int x4))) (lm_bind (lm_gI 4496 x0) fun v2 =>
  lm_bind (lm_asI (A 157 [.ref x1, .int x2, .int (v2 + x5)])) fun v3 =>
  B (6, [(0, .ref x0), (1, .ref x1), (2, .int x2), (3, .int x3), (4, .int (x4 ||| (v3 <<< (x5 &&& 31)))), (5, .int (x5 + Int32.ofInt 1))], []))
set_option maxRecDepth 100000 in
theorem lm_e77_6 {sc : lm_H} {d : Nat} {x0 : Nat} {x1 : Nat} {x2 : Int32} {x3 : Int32} {x4 : Int32} {x5 : Int32} {σ : lm_S} {r : Except Nat lm_R × lm_S} (h : lm_q77_6 sc (lm_cal sc d) (lm_rn sc d lm_m77.2.2.2.2.1 (lm_reg lm_m77.2.2.2.2.2)) x0 x1 x2 x3 x4 x5  σ = some r) : lm_rn sc d lm_m77.2.2.2.2.1 (lm_reg lm_m77.2.2.2.2.2) (6, [(0, .ref x0), (1, .ref x1), (2, .int x2), (3, .int x3), (4, .int x4), (5, .int x5)], []) σ = some r := lm_rn_of h
/-- LatticeSuiteModel.encrypt, from 0 on -/
noncomputable def lm_q78_0 (sc : lm_H) (A : Nat → List Value → lm_M lm_R) (B : lm_F → lm_M lm_R) (x0 : Nat) (x1 : Nat) (x2 : Int32) (x3 : Nat) (x4 : Nat) (x5 : Int32) : lm_M lm_R :=
  B (3, [(0, .ref x0), (1, .ref x1), (2, .int x2), (3, .ref x3), (4, .ref x4), (5, .int x5), (6, .int (Int32.ofInt 0))], [])
set_option maxRecDepth 100000 in
theorem lm_e78_0 {sc : lm_H} {d : Nat} {x0 : Nat} {x1 : Nat} {x2 : Int32} {x3 : Nat} {x4 : Nat} {x5 : Int32} {σ : lm_S} {r : Except Nat lm_R × lm_S} (h : lm_q78_0 sc (lm_cal sc d) (lm_rn sc d lm_m78.2.2.2.2.1 (lm_reg lm_m78.2.2.2.2.2)) x0 x1 x2 x3 x4 x5  σ = some r) : lm_rn sc d lm_m78.2.2.2.2.1 (lm_reg lm_m78.2.2.2.2.2) (0, [(0, .ref x0), (1, .ref x1), (2, .int x2), (3, .ref x3), (4, .ref x4), (5, .int x5)], []) σ = some r := lm_rn_of h
/-- LatticeSuiteModel.encrypt, from 3 on -/
noncomputable def lm_q78_3 (sc : lm_H) (A : Nat → List Value → lm_M lm_R) (B : lm_F → lm_M lm_R) (x0 : Nat) (x1 : Nat) (x2 : Int32) (x3 : Nat) (x4 : Nat) (x5 : Int32) (x6 : Int32) : lm_M lm_R :=
  lm_bind (lm_gI 4528 x0) fun v1 =>
  lm_if .ge x6 v1 (lm_bind (lm_putf 4496 x0 (.int (Int32.ofInt 0))) fun _ =>
  B (61, [(0, .ref x0), (1, .ref x1), (2, .int x2), (3, .ref x3), (4, .ref x4), (5, .int x5), (6, .int (Int32.ofInt 0)), (7, .int (Int32.ofInt 0))], [])) (lm_bind (lm_gR 4510 x0) fun v2 =>
  lm_bind (lm_aaR sc v2 x6) fun v3 =>
  lm_bind (lm_gI 4532 x0) fun v4 =>
  lm_bind (lm_sel [(11, 70)] (some (.ref x0))) fun y5 =>
  lm_bind (lm_asV (A y5 [.ref x0, .ref v3, .int v4, .ref x4, .int x5, .int x6])) fun _ =>
  lm_bind (lm_gR 4510 x0) fun v6 =>
  lm_bind (lm_aaR sc v6 x6) fun v7 =>
  lm_bind (lm_sel [(11, 71)] (some (.ref x0))) fun y8 =>
  lm_bind (lm_asV (A y8 [.ref x0, .ref v7])) fun _ =>
  B (3, [(0, .ref x0), (1, .ref x1), (2, .int x2), (3, .ref x3), (4, .ref x4), (5, .int x5), (6, .int (x6 + Int32.ofInt 1))], []))
set_option maxRecDepth 100000 in
theorem lm_e78_3 {sc : lm_H} {d : Nat} {x0 : Nat} {x1 : Nat} {x2 : Int32} {x3 : Nat} {x4 : Nat} {x5 : Int32} {x6 : Int32} {σ : lm_S} {r : Except Nat lm_R × lm_S} (h : lm_q78_3 sc (lm_cal sc d) (lm_rn sc d lm_m78.2.2.2.2.1 (lm_reg lm_m78.2.2.2.2.2)) x0 x1 x2 x3 x4 x5 x6  σ = some r) : lm_rn sc d lm_m78.2.2.2.2.1 (lm_reg lm_m78.2.2.2.2.2) (3, [(0, .ref x0), (1, .ref x1), (2, .int x2), (3, .ref x3), (4, .ref x4), (5, .int x5), (6, .int x6)], []) σ = some r := lm_rn_of h
/-- LatticeSuiteModel.encrypt, from 61 on -/
noncomputable def lm_q78_61 (sc : lm_H) (A : Nat → List Value → lm_M lm_R) (B : lm_F → lm_M lm_R) (x0 : Nat) (x1 : Nat) (x2 : Int32) (x3 : Nat) (x4 : Nat) (x5 : Int32) (x6 : Int32) (x7 : Int32) : lm_M lm_R :=
  lm_bind (lm_gI 4528 x0) fun v1 =>
  lm_if .ge x7 v1 (lm_bind (lm_gR 4510 x0) fun v2 =>
  lm_bind (lm_aaR sc v2 (Int32.ofInt 10)) fun v3 =>
  lm_bind (lm_asV (A 81 [.ref v3])) fun _ =>
  B (290, [(0, .ref x0), (1, .ref x1), (2, .int x2), (3, .ref x3), (4, .ref x4), (5, .int x5), (6, .int x6), (7, .int (Int32.ofInt 0))], [])) (lm_bind (lm_gR 4510 x0) fun v4 =>
  lm_bind (lm_aaR sc v4 (Int32.ofInt 10)) fun v5 =>
  lm_bind (lm_asV (A 81 [.ref v5])) fun _ =>
  B (83, [(0, .ref x0), (1, .ref x1), (2, .int x2), (3, .ref x3), (4, .ref x4), (5, .int x5), (7, .int x7), (8, .int (Int32.ofInt 0))], []))
set_option maxRecDepth 100000 in
theorem lm_e78_61 {sc : lm_H} {d : Nat} {x0 : Nat} {x1 : Nat} {x2 : Int32} {x3 : Nat} {x4 : Nat} {x5 : Int32} {x6 : Int32} {x7 : Int32} {σ : lm_S} {r : Except Nat lm_R × lm_S} (h : lm_q78_61 sc (lm_cal sc d) (lm_rn sc d lm_m78.2.2.2.2.1 (lm_reg lm_m78.2.2.2.2.2)) x0 x1 x2 x3 x4 x5 x6 x7  σ = some r) : lm_rn sc d lm_m78.2.2.2.2.1 (lm_reg lm_m78.2.2.2.2.2) (61, [(0, .ref x0), (1, .ref x1), (2, .int x2), (3, .ref x3), (4, .ref x4), (5, .int x5), (6, .int x6), (7, .int x7)], []) σ = some r := lm_rn_of h
/-- LatticeSuiteModel.encrypt, from 290 on -/
noncomputable def lm_q78_290 (sc : lm_H) (A : Nat → List Value → lm_M lm_R) (B : lm_F → lm_M lm_R) (x0 : Nat) (x1 : Nat) (x2 : Int32) (x3 : Nat) (x4 : Nat) (x5 : Int32) (x6 : Int32) (x7 : Int32) : lm_M lm_R :=
  lm_bind (lm_gI 4528 x0) fun v1 =>
  lm_if .ge x7 v1 (lm_bind (lm_gR 4510 x0) fun v2 =>
  lm_bind (lm_aaR sc v2 (Int32.ofInt 10)) fun v3 =>
  lm_bind (lm_sel [(11, 83)] (some (.ref x0))) fun y4 =>
  lm_bind (lm_asV (A y4 [.ref x0, .ref v3])) fun _ =>
  lm_bind (lm_gR 4510 x0) fun v5 =>
  lm_bind (lm_aaR sc v5 (Int32.ofInt 12)) fun v6 =>
  lm_bind (lm_gI 4528 x0) fun v7 =>
  lm_bind (lm_sel [(11, 70)] (some (.ref x0))) fun y8 =>
  lm_bind (lm_asV (A y8 [.ref x0, .ref v6, .int (Int32.ofInt 2), .ref x4, .int x5, .int ((Int32.ofInt 2) * v7)])) fun _ =>
  lm_bind (lm_putf 4496 x0 (.int x6)) fun _ =>
  B (421, [(0, .ref x0), (3, .ref x3), (7, .int (Int32.ofInt 0))], [])) (lm_bind (lm_putf 4496 x0 (.int ((Int32.ofInt 3072) * x7))) fun _ =>
  B (312, [(0, .ref x0), (1, .ref x1), (2, .int x2), (3, .ref x3), (4, .ref x4), (5, .int x5), (6, .int x6), (7, .int x7), (8, .int (Int32.ofInt 0))], []))
set_option maxRecDepth 100000 in
theorem lm_e78_290 {sc : lm_H} {d : Nat} {x0 : Nat} {x1 : Nat} {x2 : Int32} {x3 : Nat} {x4 : Nat} {x5 : Int32} {x6 : Int32} {x7 : Int32} {σ : lm_S} {r : Except Nat lm_R × lm_S} (h : lm_q78_290 sc (lm_cal sc d) (lm_rn sc d lm_m78.2.2.2.2.1 (lm_reg lm_m78.2.2.2.2.2)) x0 x1 x2 x3 x4 x5 x6 x7  σ = some r) : lm_rn sc d lm_m78.2.2.2.2.1 (lm_reg lm_m78.2.2.2.2.2) (290, [(0, .ref x0), (1, .ref x1), (2, .int x2), (3, .ref x3), (4, .ref x4), (5, .int x5), (6, .int x6), (7, .int x7)], []) σ = some r := lm_rn_of h
/-- LatticeSuiteModel.encrypt, from 83 on -/
noncomputable def lm_q78_83 (sc : lm_H) (A : Nat → List Value → lm_M lm_R) (B : lm_F → lm_M lm_R) (x0 : Nat) (x1 : Nat) (x2 : Int32) (x3 : Nat) (x4 : Nat) (x5 : Int32) (x7 : Int32) (x8 : Int32) : lm_M lm_R :=
  lm_bind (lm_gI 4528 x0) fun v1 =>
  lm_if .ge x8 v1 (lm_bind (lm_gR 4510 x0) fun v2 =>
  lm_bind (lm_aaR sc v2 (Int32.ofInt 10)) fun v3 =>
  lm_bind (lm_sel [(11, 83)] (some (.ref x0))) fun y4 =>
  lm_bind (lm_asV (A y4 [.ref x0, .ref v3])) fun _ =>
  lm_bind (lm_gR 4510 x0) fun v5 =>
  lm_bind (lm_aaR sc v5 (Int32.ofInt 12)) fun v6 =>
  lm_bind (lm_gI 4528 x0) fun v7 =>
  lm_bind (lm_sel [(11, 70)] (some (.ref x0))) fun y8 =>
  lm_bind (lm_asV (A y8 [.ref x0, .ref v6, .int (Int32.ofInt 2), .ref x4, .int x5, .int (v7 + x7)])) fun _ =>
  lm_bind (lm_gI 4536 x0) fun v9 =>
  lm_bind (lm_putf 4496 x0 (.int (((Int32.ofInt 256) * v9) * x7))) fun _ =>
  B (206, [(0, .ref x0), (1, .ref x1), (2, .int x2), (3, .ref x3), (4, .ref x4), (5, .int x5), (7, .int x7), (8, .int (Int32.ofInt 0))], [])) (lm_bind (lm_gR 4510 x0) fun v10 =>
  lm_bind (lm_aaR sc v10 (Int32.ofInt 11)) fun v11 =>
  lm_bind (lm_gI 4528 x0) fun v12 =>
  lm_bind (lm_sel [(11, 72)] (some (.ref x0))) fun y13 =>
  lm_bind (lm_asI (A y13 [.ref x0, .ref v11, .ref x1, .int (x2 + ((Int32.ofInt 384) * v12)), .int x7, .int x8])) fun v14 =>
  lm_if .ne v14 0 (lm_bind (lm_gR 4510 x0) fun v15 =>
  lm_bind (lm_aaR sc v15 (Int32.ofInt 10)) fun v16 =>
  lm_bind (lm_gR 4510 x0) fun v17 =>
  lm_bind (lm_aaR sc v17 (Int32.ofInt 11)) fun v18 =>
  lm_bind (lm_gR 4510 x0) fun v19 =>
  lm_bind (lm_aaR sc v19 x8) fun v20 =>
  lm_bind (lm_sel [(11, 73)] (some (.ref x0))) fun y21 =>
  lm_bind (lm_asV (A y21 [.ref x0, .ref v16, .ref v18, .ref v20])) fun _ =>
  B (83, [(0, .ref x0), (1, .ref x1), (2, .int x2), (3, .ref x3), (4, .ref x4), (5, .int x5), (7, .int x7), (8, .int (x8 + Int32.ofInt 1))], [])) (lm_when ((Int32.ofInt 0) = 0 ∨ (Int32.ofInt 0) = 1) inferInstance (lm_ret (some (.int (Int32.ofInt 0))))))
set_option maxRecDepth 100000 in
theorem lm_e78_83 {sc : lm_H} {d : Nat} {x0 : Nat} {x1 : Nat} {x2 : Int32} {x3 : Nat} {x4 : Nat} {x5 : Int32} {x7 : Int32} {x8 : Int32} {σ : lm_S} {r : Except Nat lm_R × lm_S} (h : lm_q78_83 sc (lm_cal sc d) (lm_rn sc d lm_m78.2.2.2.2.1 (lm_reg lm_m78.2.2.2.2.2)) x0 x1 x2 x3 x4 x5 x7 x8  σ = some r) : lm_rn sc d lm_m78.2.2.2.2.1 (lm_reg lm_m78.2.2.2.2.2) (83, [(0, .ref x0), (1, .ref x1), (2, .int x2), (3, .ref x3), (4, .ref x4), (5, .int x5), (7, .int x7), (8, .int x8)], []) σ = some r := lm_rn_of h
/-- LatticeSuiteModel.encrypt, from 421 on -/
noncomputable def lm_q78_421 (sc : lm_H) (A : Nat → List Value → lm_M lm_R) (B : lm_F → lm_M lm_R) (x0 : Nat) (x3 : Nat) (x7 : Int32) : lm_M lm_R :=
  lm_if .ge x7 (Int32.ofInt 256) (lm_when ((Int32.ofInt 1) = 0 ∨ (Int32.ofInt 1) = 1) inferInstance (lm_ret (some (.int (Int32.ofInt 1))))) (lm_bind (lm_gR 4526 x0) fun v1 =>
  lm_bind (lm_gR 4510 x0) fun v2 =>
  lm_bind (lm_aaR sc v2 (Int32.ofInt 10)) fun v3 =>
  lm_bind (lm_iald sc v3 x7) fun v4 =>
  lm_bind (lm_gR 4510 x0) fun v5 =>
  lm_bind (lm_aaR sc v5 (Int32.ofInt 12)) fun v6 =>
  lm_bind (lm_iald sc v6 x7) fun v7 =>
  lm_bind (lm_asI (A 157 [.ref x3, .int (Int32.ofInt 0), .int x7])) fun v8 =>
  lm_bind (lm_asI (A 82 [.int v8, .int (Int32.ofInt 1)])) fun v9 =>
  lm_when (¬ (Int32.ofInt 3329) = 0) inferInstance (lm_bind (lm_gI 4540 x0) fun v10 =>
  lm_bind (lm_asI (A 84 [.int (lm_rem ((v4 + v7) + v9) (Int32.ofInt 3329)), .int v10])) fun v11 =>
  lm_bind (lm_gI 4540 x0) fun v12 =>
  lm_bind (lm_sel [(11, 74)] (some (.ref x0))) fun y13 =>
  lm_bind (lm_asV (A y13 [.ref x0, .ref v1, .int (Int32.ofInt 0), .int v11, .int v12])) fun _ =>
  B (421, [(0, .ref x0), (3, .ref x3), (7, .int (x7 + Int32.ofInt 1))], [])))
set_option maxRecDepth 100000 in
theorem lm_e78_421 {sc : lm_H} {d : Nat} {x0 : Nat} {x3 : Nat} {x7 : Int32} {σ : lm_S} {r : Except Nat lm_R × lm_S} (h : lm_q78_421 sc (lm_cal sc d) (lm_rn sc d lm_m78.2.2.2.2.1 (lm_reg lm_m78.2.2.2.2.2)) x0 x3 x7  σ = some r) : lm_rn sc d lm_m78.2.2.2.2.1 (lm_reg lm_m78.2.2.2.2.2) (421, [(0, .ref x0), (3, .ref x3), (7, .int x7)], []) σ = some r := lm_rn_of h
/-- LatticeSuiteModel.encrypt, from 312 on -/
noncomputable def lm_q78_312 (sc : lm_H) (A : Nat → List Value → lm_M lm_R) (B : lm_F → lm_M lm_R) (x0 : Nat) (x1 : Nat) (x2 : Int32) (x3 : Nat) (x4 : Nat) (x5 : Int32) (x6 : Int32) (x7 : Int32) (x8 : Int32) : lm_M lm_R :=
  lm_if .ge x8 (Int32.ofInt 256) (lm_bind (lm_gR 4510 x0) fun v1 =>
  lm_bind (lm_aaR sc v1 (Int32.ofInt 10)) fun v2 =>
  lm_bind (lm_gR 4510 x0) fun v3 =>
  lm_bind (lm_aaR sc v3 (Int32.ofInt 11)) fun v4 =>
  lm_bind (lm_gR 4510 x0) fun v5 =>
  lm_bind (lm_aaR sc v5 x7) fun v6 =>
  lm_bind (lm_sel [(11, 73)] (some (.ref x0))) fun y7 =>
  lm_bind (lm_asV (A y7 [.ref x0, .ref v2, .ref v4, .ref v6])) fun _ =>
  B (290, [(0, .ref x0), (1, .ref x1), (2, .int x2), (3, .ref x3), (4, .ref x4), (5, .int x5), (6, .int x6), (7, .int (x7 + Int32.ofInt 1))], [])) (lm_bind (lm_gR 4510 x0) fun v8 =>
  lm_bind (lm_aaR sc v8 (Int32.ofInt 11)) fun v9 =>
  lm_bind (lm_sel [(11, 77)] (some (.ref x0))) fun y10 =>
  lm_bind (lm_asI (A y10 [.ref x0, .ref x1, .int x2, .int (Int32.ofInt 12)])) fun v11 =>
  lm_when (¬ (Int32.ofInt 3329) = 0) inferInstance (lm_bind (lm_iast v9 x8 (lm_rem v11 (Int32.ofInt 3329))) fun _ =>
  B (312, [(0, .ref x0), (1, .ref x1), (2, .int x2), (3, .ref x3), (4, .ref x4), (5, .int x5), (6, .int x6), (7, .int x7), (8, .int (x8 + Int32.ofInt 1))], [])))
set_option maxRecDepth 100000 in
theorem lm_e78_312 {sc : lm_H} {d : Nat} {x0 : Nat} {x1 : Nat} {x2 : Int32} {x3 : Nat} {x4 : Nat} {x5 : Int32} {x6 : Int32} {x7 : Int32} {x8 : Int32} {σ : lm_S} {r : Except Nat lm_R × lm_S} (h : lm_q78_312 sc (lm_cal sc d) (lm_rn sc d lm_m78.2.2.2.2.1 (lm_reg lm_m78.2.2.2.2.2)) x0 x1 x2 x3 x4 x5 x6 x7 x8  σ = some r) : lm_rn sc d lm_m78.2.2.2.2.1 (lm_reg lm_m78.2.2.2.2.2) (312, [(0, .ref x0), (1, .ref x1), (2, .int x2), (3, .ref x3), (4, .ref x4), (5, .int x5), (6, .int x6), (7, .int x7), (8, .int x8)], []) σ = some r := lm_rn_of h
/-- LatticeSuiteModel.encrypt, from 206 on -/
noncomputable def lm_q78_206 (sc : lm_H) (A : Nat → List Value → lm_M lm_R) (B : lm_F → lm_M lm_R) (x0 : Nat) (x1 : Nat) (x2 : Int32) (x3 : Nat) (x4 : Nat) (x5 : Int32) (x7 : Int32) (x8 : Int32) : lm_M lm_R :=
  lm_if .ge x8 (Int32.ofInt 256) (lm_bind (lm_gI 4496 x0) fun v1 =>
  B (61, [(0, .ref x0), (1, .ref x1), (2, .int x2), (3, .ref x3), (4, .ref x4), (5, .int x5), (6, .int v1), (7, .int (x7 + Int32.ofInt 1))], [])) (lm_bind (lm_gR 4526 x0) fun v2 =>
  lm_bind (lm_gR 4510 x0) fun v3 =>
  lm_bind (lm_aaR sc v3 (Int32.ofInt 10)) fun v4 =>
  lm_bind (lm_iald sc v4 x8) fun v5 =>
  lm_bind (lm_gR 4510 x0) fun v6 =>
  lm_bind (lm_aaR sc v6 (Int32.ofInt 12)) fun v7 =>
  lm_bind (lm_iald sc v7 x8) fun v8 =>
  lm_when (¬ (Int32.ofInt 3329) = 0) inferInstance (lm_bind (lm_gI 4536 x0) fun v9 =>
  lm_bind (lm_asI (A 84 [.int (lm_rem (v5 + v8) (Int32.ofInt 3329)), .int v9])) fun v10 =>
  lm_bind (lm_gI 4536 x0) fun v11 =>
  lm_bind (lm_sel [(11, 74)] (some (.ref x0))) fun y12 =>
  lm_bind (lm_asV (A y12 [.ref x0, .ref v2, .int (Int32.ofInt 0), .int v10, .int v11])) fun _ =>
  B (206, [(0, .ref x0), (1, .ref x1), (2, .int x2), (3, .ref x3), (4, .ref x4), (5, .int x5), (7, .int x7), (8, .int (x8 + Int32.ofInt 1))], [])))
set_option maxRecDepth 100000 in
theorem lm_e78_206 {sc : lm_H} {d : Nat} {x0 : Nat} {x1 : Nat} {x2 : Int32} {x3 : Nat} {x4 : Nat} {x5 : Int32} {x7 : Int32} {x8 : Int32} {σ : lm_S} {r : Except Nat lm_R × lm_S} (h : lm_q78_206 sc (lm_cal sc d) (lm_rn sc d lm_m78.2.2.2.2.1 (lm_reg lm_m78.2.2.2.2.2)) x0 x1 x2 x3 x4 x5 x7 x8  σ = some r) : lm_rn sc d lm_m78.2.2.2.2.1 (lm_reg lm_m78.2.2.2.2.2) (206, [(0, .ref x0), (1, .ref x1), (2, .int x2), (3, .ref x3), (4, .ref x4), (5, .int x5), (7, .int x7), (8, .int x8)], []) σ = some r := lm_rn_of h
