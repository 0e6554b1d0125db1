/-- LatticeSuite.kemOpen, from 0 on -/
noncomputable def lm_q79_0 (sc : lm_H) (A : Nat → List Value → lm_M lm_R) (B : lm_F → lm_M lm_R) (x0 : Nat) (x1 : Int32) : lm_M lm_R :=
  lm_bind (lm_asV (A 132 [.int x1, .int (Int32.ofInt 0), .int (Int32.ofInt 2)])) fun _ =>
  lm_bind (lm_gR 18 x0) fun v1 =>
  lm_bind (lm_sel [(8, 151)] (some (.ref v1))) fun y2 =>
  lm_bind (lm_asV (A y2 [.ref v1, .int x1])) fun _ =>
  lm_bind (lm_gR 18 x0) fun v3 =>
  lm_bind (lm_gR 2 x0) fun v4 =>
  lm_bind (lm_aaR sc v4 (Int32.ofInt 5)) fun v5 =>
  lm_bind (lm_sel [(8, 162)] (some (.ref v3))) fun y6 =>
  lm_bind (lm_asI (A y6 [.ref v3, .ref v5])) fun v7 =>
  lm_if .eq v7 0 (B (50, [(0, .ref x0)], [])) (lm_bind (lm_gR 18 x0) fun v8 =>
  lm_bind (lm_gR 2 x0) fun v9 =>
  lm_bind (lm_aaR sc v9 (Int32.ofInt 2)) fun v10 =>
  lm_bind (lm_sel [(8, 163)] (some (.ref v8))) fun y11 =>
  lm_bind (lm_asI (A y11 [.ref v8, .ref v10])) fun v12 =>
  lm_if .eq v12 0 (B (50, [(0, .ref x0)], [])) (B (51, [(0, .ref x0)], [.int (Int32.ofInt 1)])))
set_option maxRecDepth 100000 in
theorem lm_e79_0 {sc : lm_H} {d : Nat} {x0 : Nat} {x1 : Int32} {σ : lm_S} {r : Except Nat lm_R × lm_S} (h : lm_q79_0 sc (lm_cal sc d) (lm_rn sc d lm_m79.2.2.2.2.1 (lm_reg lm_m79.2.2.2.2.2)) x0 x1  σ = some r) : lm_rn sc d lm_m79.2.2.2.2.1 (lm_reg lm_m79.2.2.2.2.2) (0, [(0, .ref x0), (1, .int x1)], []) σ = some r := lm_rn_of h
/-- LatticeSuite.kemOpen, from 50 on -/
noncomputable def lm_q79_50 (sc : lm_H) (A : Nat → List Value → lm_M lm_R) (B : lm_F → lm_M lm_R) (x0 : Nat) : lm_M lm_R :=
  B (51, [(0, .ref x0)], [.int (Int32.ofInt 0)])
set_option maxRecDepth 100000 in
theorem lm_e79_50 {sc : lm_H} {d : Nat} {x0 : Nat} {σ : lm_S} {r : Except Nat lm_R × lm_S} (h : lm_q79_50 sc (lm_cal sc d) (lm_rn sc d lm_m79.2.2.2.2.1 (lm_reg lm_m79.2.2.2.2.2)) x0  σ = some r) : lm_rn sc d lm_m79.2.2.2.2.1 (lm_reg lm_m79.2.2.2.2.2) (50, [(0, .ref x0)], []) σ = some r := lm_rn_of h
/-- LatticeSuite.kemOpen, from 51 on -/
noncomputable def lm_q79_51 (sc : lm_H) (A : Nat → List Value → lm_M lm_R) (B : lm_F → lm_M lm_R) (x0 : Nat) (s0 : Int32) : lm_M lm_R :=
  lm_bind (lm_asV (A 160 [.int s0])) fun _ =>
  lm_bind (lm_gR 18 x0) fun v1 =>
  lm_bind (lm_gR 2 x0) fun v2 =>
  lm_bind (lm_aaR sc v2 (Int32.ofInt 2)) fun v3 =>
  lm_bind (lm_gR 402 v3) fun v4 =>
  lm_bind (lm_gR 2 x0) fun v5 =>
  lm_bind (lm_aaR sc v5 (Int32.ofInt 5)) fun v6 =>
  lm_bind (lm_gR 2 x0) fun v7 =>
  lm_bind (lm_aaR sc v7 (Int32.ofInt 6)) fun v8 =>
  lm_bind (lm_sel [(8, 164)] (some (.ref v1))) fun y9 =>
  lm_bind (lm_asI (A y9 [.ref v1, .ref v4, .ref v6, .ref v8])) fun v10 =>
  lm_if .eq v10 0 (lm_ret (some (.int (Int32.ofInt 0)))) (lm_ret (some (.int (Int32.ofInt 1))))
set_option maxRecDepth 100000 in
theorem lm_e79_51 {sc : lm_H} {d : Nat} {x0 : Nat} {s0 : Int32} {σ : lm_S} {r : Except Nat lm_R × lm_S} (h : lm_q79_51 sc (lm_cal sc d) (lm_rn sc d lm_m79.2.2.2.2.1 (lm_reg lm_m79.2.2.2.2.2)) x0 s0 σ = some r) : lm_rn sc d lm_m79.2.2.2.2.1 (lm_reg lm_m79.2.2.2.2.2) (51, [(0, .ref x0)], [.int s0]) σ = some r := lm_rn_of h
/-- LatticeSuiteModel.alike, from 0 on -/
noncomputable def lm_q80_0 (sc : lm_H) (A : Nat → List Value → lm_M lm_R) (B : lm_F → lm_M lm_R) (x0 : Nat) (x1 : Int32) (x2 : Nat) (x3 : Int32) (x4 : Int32) : lm_M lm_R :=
  B (6, [(0, .ref x0), (1, .int x1), (2, .ref x2), (3, .int x3), (4, .int x4), (5, .int (Int32.ofInt 1)), (6, .int (Int32.ofInt 0))], [])
set_option maxRecDepth 100000 in
theorem lm_e80_0 {sc : lm_H} {d : Nat} {x0 : Nat} {x1 : Int32} {x2 : Nat} {x3 : Int32} {x4 : Int32} {σ : lm_S} {r : Except Nat lm_R × lm_S} (h : lm_q80_0 sc (lm_cal sc d) (lm_rn sc d lm_m80.2.2.2.2.1 (lm_reg lm_m80.2.2.2.2.2)) x0 x1 x2 x3 x4  σ = some r) : lm_rn sc d lm_m80.2.2.2.2.1 (lm_reg lm_m80.2.2.2.2.2) (0, [(0, .ref x0), (1, .int x1), (2, .ref x2), (3, .int x3), (4, .int x4)], []) σ = some r := lm_rn_of h
/-- LatticeSuiteModel.alike, from 6 on -/
noncomputable def lm_q80_6 (sc : lm_H) (A : Nat → List Value → lm_M lm_R) (B : lm_F → lm_M lm_R) (x0 : Nat) (x1 : Int32) (x2 : Nat) (x3 : Int32) (x4 : Int32) (x5 : Int32) (x6 : Int32) : lm_M lm_R :=
  lm_if .ge x6 x4 (lm_when (x5 = 0 ∨ x5 = 1) inferInstance (lm_ret (some (.int x5)))) (lm_bind (lm_bald sc x0 (x1 + x6)) fun v1 =>
  lm_bind (lm_bald sc x2 (x3 + x6)) fun v2 =>
  lm_if .eq v1 v2 (B (31, [(0, .ref x0), (1, .int x1), (2, .ref x2), (3, .int x3), (4, .int x4), (5, .int x5), (6, .int x6)], [])) (B (31, [(0, .ref x0), (1, .int x1), (2, .ref x2), (3, .int x3), (4, .int x4), (5, .int (Int32.ofInt 0)), (6, .int x6)], [])))
set_option maxRecDepth 100000 in
theorem lm_e80_6 {sc : lm_H} {d : Nat} {x0 : Nat} {x1 : Int32} {x2 : Nat} {x3 : Int32} {x4 : Int32} {x5 : Int32} {x6 : Int32} {σ : lm_S} {r : Except Nat lm_R × lm_S} (h : lm_q80_6 sc (lm_cal sc d) (lm_rn sc d lm_m80.2.2.2.2.1 (lm_reg lm_m80.2.2.2.2.2)) x0 x1 x2 x3 x4 x5 x6  σ = some r) : lm_rn sc d lm_m80.2.2.2.2.1 (lm_reg lm_m80.2.2.2.2.2) (6, [(0, .ref x0), (1, .int x1), (2, .ref x2), (3, .int x3), (4, .int x4), (5, .int x5), (6, .int x6)], []) σ = some r := lm_rn_of h
/-- LatticeSuiteModel.alike, from 31 on -/
noncomputable def lm_q80_31 (sc : lm_H) (A : Nat → List Value → lm_M lm_R) (B : lm_F → lm_M lm_R) (x0 : Nat) (x1 : Int32) (x2 : Nat) (x3 : Int32) (x4 : Int32) (x5 : Int32) (x6 : Int32) : lm_M lm_R :=
  B (6, [(0, .ref x0), (1, .int x1), (2, .ref x2), (3, .int x3), (4, .int x4), (5, .int x5), (6, .int (x6 + Int32.ofInt 1))], [])
set_option maxRecDepth 100000 in
theorem lm_e80_31 {sc : lm_H} {d : Nat} {x0 : Nat} {x1 : Int32} {x2 : Nat} {x3 : Int32} {x4 : Int32} {x5 : Int32} {x6 : Int32} {σ : lm_S} {r : Except Nat lm_R × lm_S} (h : lm_q80_31 sc (lm_cal sc d) (lm_rn sc d lm_m80.2.2.2.2.1 (lm_reg lm_m80.2.2.2.2.2)) x0 x1 x2 x3 x4 x5 x6  σ = some r) : lm_rn sc d lm_m80.2.2.2.2.1 (lm_reg lm_m80.2.2.2.2.2) (31, [(0, .ref x0), (1, .int x1), (2, .ref x2), (3, .int x3), (4, .int x4), (5, .int x5), (6, .int x6)], []) σ = some r := lm_rn_of h
/-- LatticeSuiteModel.clear, from 0 on -/
noncomputable def lm_q81_0 (sc : lm_H) (A : Nat → List Value → lm_M lm_R) (B : lm_F → lm_M lm_R) (x0 : Nat) : lm_M lm_R :=
  B (2, [(0, .ref x0), (1, .int (Int32.ofInt 0))], [])
set_option maxRecDepth 100000 in
theorem lm_e81_0 {sc : lm_H} {d : Nat} {x0 : Nat} {σ : lm_S} {r : Except Nat lm_R × lm_S} (h : lm_q81_0 sc (lm_cal sc d) (lm_rn sc d lm_m81.2.2.2.2.1 (lm_reg lm_m81.2.2.2.2.2)) x0  σ = some r) : lm_rn sc d lm_m81.2.2.2.2.1 (lm_reg lm_m81.2.2.2.2.2) (0, [(0, .ref x0)], []) σ = some r := lm_rn_of h
/-- LatticeSuiteModel.clear, from 2 on -/
noncomputable def lm_q81_2 (sc : lm_H) (A : Nat → List Value → lm_M lm_R) (B : lm_F → lm_M lm_R) (x0 : Nat) (x1 : Int32) : lm_M lm_R :=
  lm_if .ge x1 (Int32.ofInt 256) (lm_ret none) (lm_bind (lm_iast x0 x1 (Int32.ofInt 0)) fun _ =>
  B (2, [(0, .ref x0), (1, .int (x1 + Int32.ofInt 1))], []))
set_option maxRecDepth 100000 in
theorem lm_e81_2 {sc : lm_H} {d : Nat} {x0 : Nat} {x1 : Int32} {σ : lm_S} {r : Except Nat lm_R × lm_S} (h : lm_q81_2 sc (lm_cal sc d) (lm_rn sc d lm_m81.2.2.2.2.1 (lm_reg lm_m81.2.2.2.2.2)) x0 x1  σ = some r) : lm_rn sc d lm_m81.2.2.2.2.1 (lm_reg lm_m81.2.2.2.2.2) (2, [(0, .ref x0), (1, .int x1)], []) σ = some r := lm_rn_of h
/-- LatticeSuiteModel.expand, from 0 on -/
noncomputable def lm_q82_0 (sc : lm_H) (A : Nat → List Value → lm_M lm_R) (B : lm_F → lm_M lm_R) (x0 : Int32) (x1 : Int32) : lm_M lm_R :=
  lm_ret (some (.int ((((Int32.ofInt 6658) * x0) + ((Int32.ofInt 1) <<< (x1 &&& 31))) >>> ((x1 + (Int32.ofInt 1)) &&& 31))))
set_option maxRecDepth 100000 in
theorem lm_e82_0 {sc : lm_H} {d : Nat} {x0 : Int32} {x1 : Int32} {σ : lm_S} {r : Except Nat lm_R × lm_S} (h : lm_q82_0 sc (lm_cal sc d) (lm_rn sc d lm_m82.2.2.2.2.1 (lm_reg lm_m82.2.2.2.2.2)) x0 x1  σ = some r) : lm_rn sc d lm_m82.2.2.2.2.1 (lm_reg lm_m82.2.2.2.2.2) (0, [(0, .int x0), (1, .int x1)], []) σ = some r := lm_rn_of h
/-- LatticeSuiteModel.unntt, from 0 on -/
noncomputable def lm_q83_0 (sc : lm_H) (A : Nat → List Value → lm_M lm_R) (B : lm_F → lm_M lm_R) (x0 : Nat) (x1 : Nat) : lm_M lm_R :=
  B (2, [(0, .ref x0), (1, .ref x1), (2, .int (Int32.ofInt 0))], [])
set_option maxRecDepth 100000 in
theorem lm_e83_0 {sc : lm_H} {d : Nat} {x0 : Nat} {x1 : Nat} {σ : lm_S} {r : Except Nat lm_R × lm_S} (h : lm_q83_0 sc (lm_cal sc d) (lm_rn sc d lm_m83.2.2.2.2.1 (lm_reg lm_m83.2.2.2.2.2)) x0 x1  σ = some r) : lm_rn sc d lm_m83.2.2.2.2.1 (lm_reg lm_m83.2.2.2.2.2) (0, [(0, .ref x0), (1, .ref x1)], []) σ = some r := lm_rn_of h
/-- LatticeSuiteModel.unntt, from 2 on -/
noncomputable def lm_q83_2 (sc : lm_H) (A : Nat → List Value → lm_M lm_R) (B : lm_F → lm_M lm_R) (x0 : Nat) (x1 : Nat) (x2 : Int32) : lm_M lm_R :=
  lm_if .ge x2 (Int32.ofInt 128) (B (147, [(0, .ref x0), (1, .ref x1), (2, .int (Int32.ofInt 0))], [])) (B (17, [(0, .ref x0), (1, .ref x1), (2, .int x2), (3, .long (Int64.ofNat 0)), (5, .long (Int64.ofNat 0)), (7, .int (Int32.ofInt 0))], []))
set_option maxRecDepth 100000 in
theorem lm_e83_2 {sc : lm_H} {d : Nat} {x0 : Nat} {x1 : Nat} {x2 : Int32} {σ : lm_S} {r : Except Nat lm_R × lm_S} (h : lm_q83_2 sc (lm_cal sc d) (lm_rn sc d lm_m83.2.2.2.2.1 (lm_reg lm_m83.2.2.2.2.2)) x0 x1 x2  σ = some r) : lm_rn sc d lm_m83.2.2.2.2.1 (lm_reg lm_m83.2.2.2.2.2) (2, [(0, .ref x0), (1, .ref x1), (2, .int x2)], []) σ = some r := lm_rn_of h
/-- LatticeSuiteModel.unntt, from 147 on -/
noncomputable def lm_q83_147 (sc : lm_H) (A : Nat → List Value → lm_M lm_R) (B : lm_F → lm_M lm_R) (x0 : Nat) (x1 : Nat) (x2 : Int32) : lm_M lm_R :=
  lm_if .ge x2 (Int32.ofInt 256) (lm_ret none) (lm_bind (lm_gR 4502 x0) fun v1 =>
  lm_bind (lm_lald sc v1 x2) fun v2 =>
  lm_bind (lm_iast x1 x2 (Int64.toInt32 v2)) fun _ =>
  B (147, [(0, .ref x0), (1, .ref x1), (2, .int (x2 + Int32.ofInt 1))], []))
set_option maxRecDepth 100000 in
theorem lm_e83_147 {sc : lm_H} {d : Nat} {x0 : Nat} {x1 : Nat} {x2 : Int32} {σ : lm_S} {r : Except Nat lm_R × lm_S} (h : lm_q83_147 sc (lm_cal sc d) (lm_rn sc d lm_m83.2.2.2.2.1 (lm_reg lm_m83.2.2.2.2.2)) x0 x1 x2  σ = some r) : lm_rn sc d lm_m83.2.2.2.2.1 (lm_reg lm_m83.2.2.2.2.2) (147, [(0, .ref x0), (1, .ref x1), (2, .int x2)], []) σ = some r := lm_rn_of h
/-- LatticeSuiteModel.unntt, from 17 on -/
noncomputable def lm_q83_17 (sc : lm_H) (A : Nat → List Value → lm_M lm_R) (B : lm_F → lm_M lm_R) (x0 : Nat) (x1 : Nat) (x2 : Int32) (x3 : Int64) (x5 : Int64) (x7 : Int32) : lm_M lm_R :=
  lm_if .ge x7 (Int32.ofInt 128) (lm_bind (lm_gR 4502 x0) fun v1 =>
  lm_when (¬ (Int64.ofNat 3329) = 0) inferInstance (lm_when (¬ (Int64.ofNat 3329) = 0) inferInstance (lm_bind (lm_last v1 ((Int32.ofInt 2) * x2) (lm_remL ((lm_remL x3 (Int64.ofNat 3329)) * (Int64.ofNat 3303)) (Int64.ofNat 3329))) fun _ =>
  lm_bind (lm_gR 4502 x0) fun v2 =>
  lm_when (¬ (Int64.ofNat 3329) = 0) inferInstance (lm_when (¬ (Int64.ofNat 3329) = 0) inferInstance (lm_bind (lm_last v2 (((Int32.ofInt 2) * x2) + (Int32.ofInt 1)) (lm_remL ((lm_remL x5 (Int64.ofNat 3329)) * (Int64.ofNat 3303)) (Int64.ofNat 3329))) fun _ =>
  B (2, [(0, .ref x0), (1, .ref x1), (2, .int (x2 + Int32.ofInt 1))], [])))))) (lm_bind (lm_gR 4506 x0) fun v3 =>
  lm_bind (lm_asI (A 158 [.int x7, .int (Int32.ofInt 7)])) fun v4 =>
  lm_when (¬ (Int32.ofInt 256) = 0) inferInstance (lm_when (¬ (Int32.ofInt 256) = 0) inferInstance (lm_bind (lm_iald sc v3 (lm_rem ((Int32.ofInt 256) - (lm_rem ((((Int32.ofInt 2) * v4) + (Int32.ofInt 1)) * x2) (Int32.ofInt 256))) (Int32.ofInt 256))) fun v5 =>
  lm_bind (lm_iald sc x1 ((Int32.ofInt 2) * x7)) fun v6 =>
  lm_bind (lm_iald sc x1 (((Int32.ofInt 2) * x7) + (Int32.ofInt 1))) fun v7 =>
  B (17, [(0, .ref x0), (1, .ref x1), (2, .int x2), (3, .long (x3 + ((Int32.toInt64 v6) * (Int32.toInt64 v5)))), (5, .long (x5 + ((Int32.toInt64 v7) * (Int32.toInt64 v5)))), (7, .int (x7 + Int32.ofInt 1))], []))))
set_option maxRecDepth 100000 in
theorem lm_e83_17 {sc : lm_H} {d : Nat} {x0 : Nat} {x1 : Nat} {x2 : Int32} {x3 : Int64} {x5 : Int64} {x7 : Int32} {σ : lm_S} {r : Except Nat lm_R × lm_S} (h : lm_q83_17 sc (lm_cal sc d) (lm_rn sc d lm_m83.2.2.2.2.1 (lm_reg lm_m83.2.2.2.2.2)) x0 x1 x2 x3 x5 x7  σ = some r) : lm_rn sc d lm_m83.2.2.2.2.1 (lm_reg lm_m83.2.2.2.2.2) (17, [(0, .ref x0), (1, .ref x1), (2, .int x2), (3, .long x3), (5, .long x5), (7, .int x7)], []) σ = some r := lm_rn_of h
/-- LatticeSuiteModel.compress, from 0 on -/
noncomputable def lm_q84_0 (sc : lm_H) (A : Nat → List Value → lm_M lm_R) (B : lm_F → lm_M lm_R) (x0 : Int32) (x1 : Int32) : lm_M lm_R :=
  lm_when (¬ (Int64.ofNat 6658) = 0) inferInstance (lm_ret (some (.int ((Int64.toInt32 (((((Int64.ofNat 2) * (Int32.toInt64 x0)) <<< ((Int32.toInt64 x1) &&& 63)) + (Int64.ofNat 3329)) / (Int64.ofNat 6658))) &&& (((Int32.ofInt 1) <<< (x1 &&& 31)) - (Int32.ofInt 1))))))
set_option maxRecDepth 100000 in
theorem lm_e84_0 {sc : lm_H} {d : Nat} {x0 : Int32} {x1 : Int32} {σ : lm_S} {r : Except Nat lm_R × lm_S} (h : lm_q84_0 sc (lm_cal sc d) (lm_rn sc d lm_m84.2.2.2.2.1 (lm_reg lm_m84.2.2.2.2.2)) x0 x1  σ = some r) : lm_rn sc d lm_m84.2.2.2.2.1 (lm_reg lm_m84.2.2.2.2.2) (0, [(0, .int x0), (1, .int x1)], []) σ = some r := lm_rn_of h
/-- LatticeSuite.dsaKeys, from 0 on -/
noncomputable def lm_q85_0 (sc : lm_H) (A : Nat → List Value → lm_M lm_R) (B : lm_F → lm_M lm_R) (x0 : Nat) (x1 : Int32) : lm_M lm_R :=
  lm_bind (lm_asV (A 132 [.int x1, .int (Int32.ofInt 0), .int (Int32.ofInt 2)])) fun _ =>
  lm_bind (lm_gR 2 x0) fun v1 =>
  lm_bind (lm_aaR sc v1 (Int32.ofInt 0)) fun v2 =>
  lm_bind (lm_gI 404 v2) fun v3 =>
  lm_if .ne v3 (Int32.ofInt 32) (B (25, [(0, .ref x0), (1, .int x1)], [.int (Int32.ofInt 0)])) (B (25, [(0, .ref x0), (1, .int x1)], [.int (Int32.ofInt 1)]))
set_option maxRecDepth 100000 in
theorem lm_e85_0 {sc : lm_H} {d : Nat} {x0 : Nat} {x1 : Int32} {σ : lm_S} {r : Except Nat lm_R × lm_S} (h : lm_q85_0 sc (lm_cal sc d) (lm_rn sc d lm_m85.2.2.2.2.1 (lm_reg lm_m85.2.2.2.2.2)) x0 x1  σ = some r) : lm_rn sc d lm_m85.2.2.2.2.1 (lm_reg lm_m85.2.2.2.2.2) (0, [(0, .ref x0), (1, .int x1)], []) σ = some r := lm_rn_of h
/-- LatticeSuite.dsaKeys, from 25 on -/
noncomputable def lm_q85_25 (sc : lm_H) (A : Nat → List Value → lm_M lm_R) (B : lm_F → lm_M lm_R) (x0 : Nat) (x1 : Int32) (s0 : Int32) : lm_M lm_R :=
  lm_bind (lm_asV (A 150 [.int s0])) fun _ =>
  lm_bind (lm_gR 22 x0) fun v1 =>
  lm_bind (lm_sel [(9, 165)] (some (.ref v1))) fun y2 =>
  lm_bind (lm_asV (A y2 [.ref v1, .int x1])) fun _ =>
  lm_bind (lm_gR 22 x0) fun v3 =>
  lm_bind (lm_gR 2 x0) fun v4 =>
  lm_bind (lm_aaR sc v4 (Int32.ofInt 0)) fun v5 =>
  lm_bind (lm_gR 402 v5) fun v6 =>
  lm_bind (lm_gR 2 x0) fun v7 =>
  lm_bind (lm_aaR sc v7 (Int32.ofInt 1)) fun v8 =>
  lm_bind (lm_gR 2 x0) fun v9 =>
  lm_bind (lm_aaR sc v9 (Int32.ofInt 2)) fun v10 =>
  lm_bind (lm_sel [(9, 166)] (some (.ref v3))) fun y11 =>
  lm_bind (lm_asV (A y11 [.ref v3, .ref v6, .ref v8, .ref v10])) fun _ =>
  lm_bind (lm_gR 2 x0) fun v12 =>
  lm_bind (lm_aaR sc v12 (Int32.ofInt 2)) fun v13 =>
  lm_bind (lm_gI 404 v13) fun v14 =>
  lm_ret (some (.int v14))
set_option maxRecDepth 100000 in
theorem lm_e85_25 {sc : lm_H} {d : Nat} {x0 : Nat} {x1 : Int32} {s0 : Int32} {σ : lm_S} {r : Except Nat lm_R × lm_S} (h : lm_q85_25 sc (lm_cal sc d) (lm_rn sc d lm_m85.2.2.2.2.1 (lm_reg lm_m85.2.2.2.2.2)) x0 x1 s0 σ = some r) : lm_rn sc d lm_m85.2.2.2.2.1 (lm_reg lm_m85.2.2.2.2.2) (25, [(0, .ref x0), (1, .int x1)], [.int s0]) σ = some r := lm_rn_of h
/-- LatticeSuiteModel.dsa, from 0 on -/
noncomputable def lm_q86_0 (sc : lm_H) (A : Nat → List Value → lm_M lm_R) (B : lm_F → lm_M lm_R) (x0 : Nat) (x1 : Int32) : lm_M lm_R :=
  lm_if .ne x1 0 (lm_if .ne x1 (Int32.ofInt 1) (B (21, [(0, .ref x0), (1, .int x1)], [.int (Int32.ofInt 8), .ref x0])) (B (21, [(0, .ref x0), (1, .int x1)], [.int (Int32.ofInt 6), .ref x0]))) (B (21, [(0, .ref x0), (1, .int x1)], [.int (Int32.ofInt 4), .ref x0]))
set_option maxRecDepth 100000 in
theorem lm_e86_0 {sc : lm_H} {d : Nat} {x0 : Nat} {x1 : Int32} {σ : lm_S} {r : Except Nat lm_R × lm_S} (h : lm_q86_0 sc (lm_cal sc d) (lm_rn sc d lm_m86.2.2.2.2.1 (lm_reg lm_m86.2.2.2.2.2)) x0 x1  σ = some r) : lm_rn sc d lm_m86.2.2.2.2.1 (lm_reg lm_m86.2.2.2.2.2) (0, [(0, .ref x0), (1, .int x1)], []) σ = some r := lm_rn_of h
/-- LatticeSuiteModel.dsa, from 21 on -/
noncomputable def lm_q86_21 (sc : lm_H) (A : Nat → List Value → lm_M lm_R) (B : lm_F → lm_M lm_R) (x0 : Nat) (x1 : Int32) (s0 : Int32) (s1 : Nat) : lm_M lm_R :=
  lm_bind (lm_putf 4528 s1 (.int s0)) fun _ =>
  lm_if .ne x1 0 (lm_if .ne x1 (Int32.ofInt 1) (B (44, [(0, .ref x0), (1, .int x1)], [.int (Int32.ofInt 7), .ref x0])) (B (44, [(0, .ref x0), (1, .int x1)], [.int (Int32.ofInt 5), .ref x0]))) (B (44, [(0, .ref x0), (1, .int x1)], [.int (Int32.ofInt 4), .ref x0]))
set_option maxRecDepth 100000 in
theorem lm_e86_21 {sc : lm_H} {d : Nat} {x0 : Nat} {x1 : Int32} {s0 : Int32} {s1 : Nat} {σ : lm_S} {r : Except Nat lm_R × lm_S} (h : lm_q86_21 sc (lm_cal sc d) (lm_rn sc d lm_m86.2.2.2.2.1 (lm_reg lm_m86.2.2.2.2.2)) x0 x1 s0 s1 σ = some r) : lm_rn sc d lm_m86.2.2.2.2.1 (lm_reg lm_m86.2.2.2.2.2) (21, [(0, .ref x0), (1, .int x1)], [.int s0, .ref s1]) σ = some r := lm_rn_of h
/-- LatticeSuiteModel.dsa, from 44 on -/
noncomputable def lm_q86_44 (sc : lm_H) (A : Nat → List Value → lm_M lm_R) (B : lm_F → lm_M lm_R) (x0 : Nat) (x1 : Int32) (s0 : Int32) (s1 : Nat) : lm_M lm_R :=
  lm_bind (lm_putf 4568 s1 (.int s0)) fun _ =>
  lm_if .ne x1 (Int32.ofInt 1) (B (58, [(0, .ref x0), (1, .int x1)], [.int (Int32.ofInt 2), .ref x0])) (B (58, [(0, .ref x0), (1, .int x1)], [.int (Int32.ofInt 4), .ref x0]))
set_option maxRecDepth 100000 in
theorem lm_e86_44 {sc : lm_H} {d : Nat} {x0 : Nat} {x1 : Int32} {s0 : Int32} {s1 : Nat} {σ : lm_S} {r : Except Nat lm_R × lm_S} (h : lm_q86_44 sc (lm_cal sc d) (lm_rn sc d lm_m86.2.2.2.2.1 (lm_reg lm_m86.2.2.2.2.2)) x0 x1 s0 s1 σ = some r) : lm_rn sc d lm_m86.2.2.2.2.1 (lm_reg lm_m86.2.2.2.2.2) (44, [(0, .ref x0), (1, .int x1)], [.int s0, .ref s1]) σ = some r := lm_rn_of h
/-- LatticeSuiteModel.dsa, from 58 on -/
noncomputable def lm_q86_58 (sc : lm_H) (A : Nat → List Value → lm_M lm_R) (B : lm_F → lm_M lm_R) (x0 : Nat) (x1 : Int32) (s0 : Int32) (s1 : Nat) : lm_M lm_R :=
  lm_bind (lm_putf 4572 s1 (.int s0)) fun _ =>
  lm_if .ne x1 0 (lm_if .ne x1 (Int32.ofInt 1) (B (83, [(0, .ref x0), (1, .int x1)], [.int (Int32.ofInt 60), .ref x0])) (B (83, [(0, .ref x0), (1, .int x1)], [.int (Int32.ofInt 49), .ref x0]))) (B (83, [(0, .ref x0), (1, .int x1)], [.int (Int32.ofInt 39), .ref x0]))
set_option maxRecDepth 100000 in
theorem lm_e86_58 {sc : lm_H} {d : Nat} {x0 : Nat} {x1 : Int32} {s0 : Int32} {s1 : Nat} {σ : lm_S} {r : Except Nat lm_R × lm_S} (h : lm_q86_58 sc (lm_cal sc d) (lm_rn sc d lm_m86.2.2.2.2.1 (lm_reg lm_m86.2.2.2.2.2)) x0 x1 s0 s1 σ = some r) : lm_rn sc d lm_m86.2.2.2.2.1 (lm_reg lm_m86.2.2.2.2.2) (58, [(0, .ref x0), (1, .int x1)], [.int s0, .ref s1]) σ = some r := lm_rn_of h
/-- LatticeSuiteModel.dsa, from 83 on -/
noncomputable def lm_q86_83 (sc : lm_H) (A : Nat → List Value → lm_M lm_R) (B : lm_F → lm_M lm_R) (x0 : Nat) (x1 : Int32) (s0 : Int32) (s1 : Nat) : lm_M lm_R :=
  lm_bind (lm_putf 4576 s1 (.int s0)) fun _ =>
  lm_if .ne x1 0 (B (100, [(0, .ref x0), (1, .int x1)], [.int (Int32.ofInt 524288), .ref x0])) (B (100, [(0, .ref x0), (1, .int x1)], [.int (Int32.ofInt 131072), .ref x0]))
set_option maxRecDepth 100000 in
theorem lm_e86_83 {sc : lm_H} {d : Nat} {x0 : Nat} {x1 : Int32} {s0 : Int32} {s1 : Nat} {σ : lm_S} {r : Except Nat lm_R × lm_S} (h : lm_q86_83 sc (lm_cal sc d) (lm_rn sc d lm_m86.2.2.2.2.1 (lm_reg lm_m86.2.2.2.2.2)) x0 x1 s0 s1 σ = some r) : lm_rn sc d lm_m86.2.2.2.2.1 (lm_reg lm_m86.2.2.2.2.2) (83, [(0, .ref x0), (1, .int x1)], [.int s0, .ref s1]) σ = some r := lm_rn_of h
/-- LatticeSuiteModel.dsa, from 100 on -/
noncomputable def lm_q86_100 (sc : lm_H) (A : Nat → List Value → lm_M lm_R) (B : lm_F → lm_M lm_R) (x0 : Nat) (x1 : Int32) (s0 : Int32) (s1 : Nat) : lm_M lm_R :=
  lm_bind (lm_putf 4580 s1 (.int s0)) fun _ =>
  lm_if .ne x1 0 (B (117, [(0, .ref x0), (1, .int x1)], [.int (Int32.ofInt 261888), .ref x0])) (B (117, [(0, .ref x0), (1, .int x1)], [.int (Int32.ofInt 95232), .ref x0]))
set_option maxRecDepth 100000 in
theorem lm_e86_100 {sc : lm_H} {d : Nat} {x0 : Nat} {x1 : Int32} {s0 : Int32} {s1 : Nat} {σ : lm_S} {r : Except Nat lm_R × lm_S} (h : lm_q86_100 sc (lm_cal sc d) (lm_rn sc d lm_m86.2.2.2.2.1 (lm_reg lm_m86.2.2.2.2.2)) x0 x1 s0 s1 σ = some r) : lm_rn sc d lm_m86.2.2.2.2.1 (lm_reg lm_m86.2.2.2.2.2) (100, [(0, .ref x0), (1, .int x1)], [.int s0, .ref s1]) σ = some r := lm_rn_of h
/-- LatticeSuiteModel.dsa, from 117 on -/
noncomputable def lm_q86_117 (sc : lm_H) (A : Nat → List Value → lm_M lm_R) (B : lm_F → lm_M lm_R) (x0 : Nat) (x1 : Int32) (s0 : Int32) (s1 : Nat) : lm_M lm_R :=
  lm_bind (lm_putf 4584 s1 (.int s0)) fun _ =>
  lm_if .ne x1 0 (lm_if .ne x1 (Int32.ofInt 1) (B (142, [(0, .ref x0), (1, .int x1)], [.int (Int32.ofInt 75), .ref x0])) (B (142, [(0, .ref x0), (1, .int x1)], [.int (Int32.ofInt 55), .ref x0]))) (B (142, [(0, .ref x0), (1, .int x1)], [.int (Int32.ofInt 80), .ref x0]))
set_option maxRecDepth 100000 in
theorem lm_e86_117 {sc : lm_H} {d : Nat} {x0 : Nat} {x1 : Int32} {s0 : Int32} {s1 : Nat} {σ : lm_S} {r : Except Nat lm_R × lm_S} (h : lm_q86_117 sc (lm_cal sc d) (lm_rn sc d lm_m86.2.2.2.2.1 (lm_reg lm_m86.2.2.2.2.2)) x0 x1 s0 s1 σ = some r) : lm_rn sc d lm_m86.2.2.2.2.1 (lm_reg lm_m86.2.2.2.2.2) (117, [(0, .ref x0), (1, .int x1)], [.int s0, .ref s1]) σ = some r := lm_rn_of h
/-- LatticeSuiteModel.dsa, from 142 on -/
noncomputable def lm_q86_142 (sc : lm_H) (A : Nat → List Value → lm_M lm_R) (B : lm_F → lm_M lm_R) (x0 : Nat) (x1 : Int32) (s0 : Int32) (s1 : Nat) : lm_M lm_R :=
  lm_bind (lm_putf 4588 s1 (.int s0)) fun _ =>
  lm_bind (lm_putf 4592 x0 (.int ((Int32.ofInt 32) + ((Int32.ofInt 16) * x1)))) fun _ =>
  lm_if .ne x1 0 (B (168, [(0, .ref x0)], [.int (Int32.ofInt 20), .ref x0])) (B (168, [(0, .ref x0)], [.int (Int32.ofInt 18), .ref x0]))
set_option maxRecDepth 100000 in
theorem lm_e86_142 {sc : lm_H} {d : Nat} {x0 : Nat} {x1 : Int32} {s0 : Int32} {s1 : Nat} {σ : lm_S} {r : Except Nat lm_R × lm_S} (h : lm_q86_142 sc (lm_cal sc d) (lm_rn sc d lm_m86.2.2.2.2.1 (lm_reg lm_m86.2.2.2.2.2)) x0 x1 s0 s1 σ = some r) : lm_rn sc d lm_m86.2.2.2.2.1 (lm_reg lm_m86.2.2.2.2.2) (142, [(0, .ref x0), (1, .int x1)], [.int s0, .ref s1]) σ = some r := lm_rn_of h
/-- LatticeSuiteModel.dsa, from 168 on -/
noncomputable def lm_q86_168 (sc : lm_H) (A : Nat → List Value → lm_M lm_R) (B : lm_F → lm_M lm_R) (x0 : Nat) (s0 : Int32) (s1 : Nat) : lm_M lm_R :=
  lm_bind (lm_putf 4596 s1 (.int s0)) fun _ =>
  lm_bind (lm_gR 4550 x0) fun v1 =>
  lm_bind (lm_iast v1 (Int32.ofInt 0) (Int32.ofInt 1)) fun _ =>
  B (180, [(0, .ref x0), (2, .int (Int32.ofInt 1))], [])
set_option maxRecDepth 100000 in
theorem lm_e86_168 {sc : lm_H} {d : Nat} {x0 : Nat} {s0 : Int32} {s1 : Nat} {σ : lm_S} {r : Except Nat lm_R × lm_S} (h : lm_q86_168 sc (lm_cal sc d) (lm_rn sc d lm_m86.2.2.2.2.1 (lm_reg lm_m86.2.2.2.2.2)) x0 s0 s1 σ = some r) : lm_rn sc d lm_m86.2.2.2.2.1 (lm_reg lm_m86.2.2.2.2.2) (168, [(0, .ref x0)], [.int s0, .ref s1]) σ = some r := lm_rn_of h
/-- LatticeSuiteModel.dsa, from 180 on -/
noncomputable def lm_q86_180 (sc : lm_H) (A : Nat → List Value → lm_M lm_R) (B : lm_F → lm_M lm_R) (x0 : Nat) (x2 : Int32) : lm_M lm_R :=
  lm_if .ge x2 (Int32.ofInt 512) (lm_ret none) (lm_bind (lm_gR 4550 x0) fun v1 =>
  lm_bind (lm_gR 4550 x0) fun v2 =>
  lm_bind (lm_iald sc v2 (x2 - (Int32.ofInt 1))) fun v3 =>
  lm_when (¬ (Int64.ofNat 8380417) = 0) inferInstance (lm_bind (lm_iast v1 x2 (Int64.toInt32 (lm_remL ((Int32.toInt64 v3) * (Int64.ofNat 1753)) (Int64.ofNat 8380417)))) fun _ =>
  B (180, [(0, .ref x0), (2, .int (x2 + Int32.ofInt 1))], [])))
set_option maxRecDepth 100000 in
theorem lm_e86_180 {sc : lm_H} {d : Nat} {x0 : Nat} {x2 : Int32} {σ : lm_S} {r : Except Nat lm_R × lm_S} (h : lm_q86_180 sc (lm_cal sc d) (lm_rn sc d lm_m86.2.2.2.2.1 (lm_reg lm_m86.2.2.2.2.2)) x0 x2  σ = some r) : lm_rn sc d lm_m86.2.2.2.2.1 (lm_reg lm_m86.2.2.2.2.2) (180, [(0, .ref x0), (2, .int x2)], []) σ = some r := lm_rn_of h
/-- LatticeSuiteModel.sampleSmall, from 0 on -/
noncomputable def lm_q87_0 (sc : lm_H) (A : Nat → List Value → lm_M lm_R) (B : lm_F → lm_M lm_R) (x0 : Nat) (x1 : Nat) (x2 : Nat) (x3 : Int32) (x4 : Int32) : lm_M lm_R :=
  lm_bind (lm_sel [(11, 61)] (some (.ref x0))) fun y1 =>
  lm_bind (lm_asV (A y1 [.ref x0, .int (Int32.ofInt 12)])) fun _ =>
  lm_bind (lm_sel [(11, 62)] (some (.ref x0))) fun y2 =>
  lm_bind (lm_asV (A y2 [.ref x0, .ref x2, .int x3, .int (Int32.ofInt 64)])) fun _ =>
  lm_bind (lm_sel [(11, 69)] (some (.ref x0))) fun y3 =>
  lm_bind (lm_asV (A y3 [.ref x0, .int x4])) fun _ =>
  lm_bind (lm_sel [(11, 69)] (some (.ref x0))) fun y4 =>
  lm_bind (lm_asV (A y4 [.ref x0, .int (x4 >>> ((Int32.ofInt 8) &&& 31))])) fun _ =>
  lm_bind (lm_sel [(11, 147)] (some (.ref x0))) fun y5 =>
  lm_bind (lm_asV (A y5 [.ref x0])) fun _ =>
  B (39, [(0, .ref x0), (1, .ref x1), (5, .int (Int32.ofInt 0)), (6, .int (Int32.ofInt 0))], [])
set_option maxRecDepth 100000 in
theorem lm_e87_0 {sc : lm_H} {d : Nat} {x0 : Nat} {x1 : Nat} {x2 : Nat} {x3 : Int32} {x4 : Int32} {σ : lm_S} {r : Except Nat lm_R × lm_S} (h : lm_q87_0 sc (lm_cal sc d) (lm_rn sc d lm_m87.2.2.2.2.1 (lm_reg lm_m87.2.2.2.2.2)) x0 x1 x2 x3 x4  σ = some r) : lm_rn sc d lm_m87.2.2.2.2.1 (lm_reg lm_m87.2.2.2.2.2) (0, [(0, .ref x0), (1, .ref x1), (2, .ref x2), (3, .int x3), (4, .int x4)], []) σ = some r := lm_rn_of h
/-- LatticeSuiteModel.sampleSmall, from 39 on -/
noncomputable def lm_q87_39 (sc : lm_H) (A : Nat → List Value → lm_M lm_R) (B : lm_F → lm_M lm_R) (x0 : Nat) (x1 : Nat) (x5 : Int32) (x6 : Int32) : lm_M lm_R :=
  lm_if .ge x6 (Int32.ofInt 481) (B (133, [(5, .int x5)], [])) (lm_if .ge x5 (Int32.ofInt 256) (B (133, [(5, .int x5)], [])) (lm_bind (lm_sel [(11, 149)] (some (.ref x0))) fun y1 =>
  lm_bind (lm_asI (A y1 [.ref x0])) fun v2 =>
  lm_bind (lm_sel [(11, 167)] (some (.ref x0))) fun y3 =>
  lm_bind (lm_asI (A y3 [.ref x0, .int (v2 &&& (Int32.ofInt 15))])) fun v4 =>
  lm_if .ge v4 (Int32.ofInt 9) (B (91, [(0, .ref x0), (1, .ref x1), (5, .int x5), (6, .int x6), (7, .int v2)], [])) (lm_bind (lm_sel [(11, 167)] (some (.ref x0))) fun y5 =>
  lm_bind (lm_asI (A y5 [.ref x0, .int (v2 &&& (Int32.ofInt 15))])) fun v6 =>
  lm_bind (lm_iast x1 x5 v6) fun _ =>
  B (91, [(0, .ref x0), (1, .ref x1), (5, .int (x5 + Int32.ofInt 1)), (6, .int x6), (7, .int v2)], []))))
set_option maxRecDepth 100000 in
theorem lm_e87_39 {sc : lm_H} {d : Nat} {x0 : Nat} {x1 : Nat} {x5 : Int32} {x6 : Int32} {σ : lm_S} {r : Except Nat lm_R × lm_S} (h : lm_q87_39 sc (lm_cal sc d) (lm_rn sc d lm_m87.2.2.2.2.1 (lm_reg lm_m87.2.2.2.2.2)) x0 x1 x5 x6  σ = some r) : lm_rn sc d lm_m87.2.2.2.2.1 (lm_reg lm_m87.2.2.2.2.2) (39, [(0, .ref x0), (1, .ref x1), (5, .int x5), (6, .int x6)], []) σ = some r := lm_rn_of h
/-- LatticeSuiteModel.sampleSmall, from 133 on -/
noncomputable def lm_q87_133 (sc : lm_H) (A : Nat → List Value → lm_M lm_R) (B : lm_F → lm_M lm_R) (x5 : Int32) : lm_M lm_R :=
  lm_if .ne x5 (Int32.ofInt 256) (lm_when ((Int32.ofInt 0) = 0 ∨ (Int32.ofInt 0) = 1) inferInstance (lm_ret (some (.int (Int32.ofInt 0))))) (lm_when ((Int32.ofInt 1) = 0 ∨ (Int32.ofInt 1) = 1) inferInstance (lm_ret (some (.int (Int32.ofInt 1)))))
set_option maxRecDepth 100000 in
theorem lm_e87_133 {sc : lm_H} {d : Nat} {x5 : Int32} {σ : lm_S} {r : Except Nat lm_R × lm_S} (h : lm_q87_133 sc (lm_cal sc d) (lm_rn sc d lm_m87.2.2.2.2.1 (lm_reg lm_m87.2.2.2.2.2)) x5  σ = some r) : lm_rn sc d lm_m87.2.2.2.2.1 (lm_reg lm_m87.2.2.2.2.2) (133, [(5, .int x5)], []) σ = some r := lm_rn_of h
/-- LatticeSuiteModel.sampleSmall, from 91 on -/
noncomputable def lm_q87_91 (sc : lm_H) (A : Nat → List Value → lm_M lm_R) (B : lm_F → lm_M lm_R) (x0 : Nat) (x1 : Nat) (x5 : Int32) (x6 : Int32) (x7 : Int32) : lm_M lm_R :=
  lm_if .ge x5 (Int32.ofInt 256) (B (127, [(0, .ref x0), (1, .ref x1), (5, .int x5), (6, .int x6)], [])) (lm_bind (lm_sel [(11, 167)] (some (.ref x0))) fun y1 =>
  lm_bind (lm_asI (A y1 [.ref x0, .int (x7 >>> ((Int32.ofInt 4) &&& 31))])) fun v2 =>
  lm_if .ge v2 (Int32.ofInt 9) (B (127, [(0, .ref x0), (1, .ref x1), (5, .int x5), (6, .int x6)], [])) (lm_bind (lm_sel [(11, 167)] (some (.ref x0))) fun y3 =>
  lm_bind (lm_asI (A y3 [.ref x0, .int (x7 >>> ((Int32.ofInt 4) &&& 31))])) fun v4 =>
  lm_bind (lm_iast x1 x5 v4) fun _ =>
  B (127, [(0, .ref x0), (1, .ref x1), (5, .int (x5 + Int32.ofInt 1)), (6, .int x6)], [])))
set_option maxRecDepth 100000 in
theorem lm_e87_91 {sc : lm_H} {d : Nat} {x0 : Nat} {x1 : Nat} {x5 : Int32} {x6 : Int32} {x7 : Int32} {σ : lm_S} {r : Except Nat lm_R × lm_S} (h : lm_q87_91 sc (lm_cal sc d) (lm_rn sc d lm_m87.2.2.2.2.1 (lm_reg lm_m87.2.2.2.2.2)) x0 x1 x5 x6 x7  σ = some r) : lm_rn sc d lm_m87.2.2.2.2.1 (lm_reg lm_m87.2.2.2.2.2) (91, [(0, .ref x0), (1, .ref x1), (5, .int x5), (6, .int x6), (7, .int x7)], []) σ = some r := lm_rn_of h
/-- LatticeSuiteModel.sampleSmall, from 127 on -/
noncomputable def lm_q87_127 (sc : lm_H) (A : Nat → List Value → lm_M lm_R) (B : lm_F → lm_M lm_R) (x0 : Nat) (x1 : Nat) (x5 : Int32) (x6 : Int32) : lm_M lm_R :=
  B (39, [(0, .ref x0), (1, .ref x1), (5, .int x5), (6, .int (x6 + Int32.ofInt 1))], [])
set_option maxRecDepth 100000 in
theorem lm_e87_127 {sc : lm_H} {d : Nat} {x0 : Nat} {x1 : Nat} {x5 : Int32} {x6 : Int32} {σ : lm_S} {r : Except Nat lm_R × lm_S} (h : lm_q87_127 sc (lm_cal sc d) (lm_rn sc d lm_m87.2.2.2.2.1 (lm_reg lm_m87.2.2.2.2.2)) x0 x1 x5 x6  σ = some r) : lm_rn sc d lm_m87.2.2.2.2.1 (lm_reg lm_m87.2.2.2.2.2) (127, [(0, .ref x0), (1, .ref x1), (5, .int x5), (6, .int x6)], []) σ = some r := lm_rn_of h
/-- LatticeSuiteModel.pack, from 0 on -/
noncomputable def lm_q88_0 (sc : lm_H) (A : Nat → List Value → lm_M lm_R) (B : lm_F → lm_M lm_R) (x0 : Nat) (x1 : Nat) (x2 : Int32) (x3 : Nat) (x4 : Int32) (x5 : Int32) : lm_M lm_R :=
  B (3, [(0, .ref x0), (1, .ref x1), (2, .int x2), (3, .ref x3), (4, .int x4), (5, .int x5), (6, .int (Int32.ofInt 0))], [])
set_option maxRecDepth 100000 in
theorem lm_e88_0 {sc : lm_H} {d : Nat} {x0 : Nat} {x1 : Nat} {x2 : Int32} {x3 : Nat} {x4 : Int32} {x5 : Int32} {σ : lm_S} {r : Except Nat lm_R × lm_S} (h : lm_q88_0 sc (lm_cal sc d) (lm_rn sc d lm_m88.2.2.2.2.1 (lm_reg lm_m88.2.2.2.2.2)) x0 x1 x2 x3 x4 x5  σ = some r) : lm_rn sc d lm_m88.2.2.2.2.1 (lm_reg lm_m88.2.2.2.2.2) (0, [(0, .ref x0), (1, .ref x1), (2, .int x2), (3, .ref x3), (4, .int x4), (5, .int x5)], []) σ = some r := lm_rn_of h
/-- LatticeSuiteModel.pack, from 3 on -/
noncomputable def lm_q88_3 (sc : lm_H) (A : Nat → List Value → lm_M lm_R) (B : lm_F → lm_M lm_R) (x0 : Nat) (x1 : Nat) (x2 : Int32) (x3 : Nat) (x4 : Int32) (x5 : Int32) (x6 : Int32) : lm_M lm_R :=
  lm_if .ge x6 (Int32.ofInt 256) (lm_ret none) (lm_bind (lm_iald sc x3 x6) fun v1 =>
  lm_bind (lm_sel [(11, 74)] (some (.ref x0))) fun y2 =>
  lm_bind (lm_asV (A y2 [.ref x0, .ref x1, .int x2, .int (x4 - v1), .int x5])) fun _ =>
  B (3, [(0, .ref x0), (1, .ref x1), (2, .int x2), (3, .ref x3), (4, .int x4), (5, .int x5), (6, .int (x6 + Int32.ofInt 1))], []))
set_option maxRecDepth 100000 in
theorem lm_e88_3 {sc : lm_H} {d : Nat} {x0 : Nat} {x1 : Nat} {x2 : Int32} {x3 : Nat} {x4 : Int32} {x5 : Int32} {x6 : Int32} {σ : lm_S} {r : Except Nat lm_R × lm_S} (h : lm_q88_3 sc (lm_cal sc d) (lm_rn sc d lm_m88.2.2.2.2.1 (lm_reg lm_m88.2.2.2.2.2)) x0 x1 x2 x3 x4 x5 x6  σ = some r) : lm_rn sc d lm_m88.2.2.2.2.1 (lm_reg lm_m88.2.2.2.2.2) (3, [(0, .ref x0), (1, .ref x1), (2, .int x2), (3, .ref x3), (4, .int x4), (5, .int x5), (6, .int x6)], []) σ = some r := lm_rn_of h
/-- LatticeSuiteModel.positive, from 0 on -/
noncomputable def lm_q89_0 (sc : lm_H) (A : Nat → List Value → lm_M lm_R) (B : lm_F → lm_M lm_R) (x0 : Nat) : lm_M lm_R :=
  B (2, [(0, .ref x0), (1, .int (Int32.ofInt 0))], [])
set_option maxRecDepth 100000 in
theorem lm_e89_0 {sc : lm_H} {d : Nat} {x0 : Nat} {σ : lm_S} {r : Except Nat lm_R × lm_S} (h : lm_q89_0 sc (lm_cal sc d) (lm_rn sc d lm_m89.2.2.2.2.1 (lm_reg lm_m89.2.2.2.2.2)) x0  σ = some r) : lm_rn sc d lm_m89.2.2.2.2.1 (lm_reg lm_m89.2.2.2.2.2) (0, [(0, .ref x0)], []) σ = some r := lm_rn_of h
/-- LatticeSuiteModel.positive, from 2 on -/
noncomputable def lm_q89_2 (sc : lm_H) (A : Nat → List Value → lm_M lm_R) (B : lm_F → lm_M lm_R) (x0 : Nat) (x1 : Int32) : lm_M lm_R :=
  lm_if .ge x1 (Int32.ofInt 256) (lm_ret none) (lm_bind (lm_iald sc x0 x1) fun v1 =>
  lm_when (¬ (Int32.ofInt 8380417) = 0) inferInstance (lm_bind (lm_iast x0 x1 (lm_rem (v1 + (Int32.ofInt 8380417)) (Int32.ofInt 8380417))) fun _ =>
  B (2, [(0, .ref x0), (1, .int (x1 + Int32.ofInt 1))], [])))
set_option maxRecDepth 100000 in
theorem lm_e89_2 {sc : lm_H} {d : Nat} {x0 : Nat} {x1 : Int32} {σ : lm_S} {r : Except Nat lm_R × lm_S} (h : lm_q89_2 sc (lm_cal sc d) (lm_rn sc d lm_m89.2.2.2.2.1 (lm_reg lm_m89.2.2.2.2.2)) x0 x1  σ = some r) : lm_rn sc d lm_m89.2.2.2.2.1 (lm_reg lm_m89.2.2.2.2.2) (2, [(0, .ref x0), (1, .int x1)], []) σ = some r := lm_rn_of h
/-- LatticeSuiteModel.evaluate, from 0 on -/
noncomputable def lm_q90_0 (sc : lm_H) (A : Nat → List Value → lm_M lm_R) (B : lm_F → lm_M lm_R) (x0 : Nat) (x1 : Nat) : lm_M lm_R :=
  B (2, [(0, .ref x0), (1, .ref x1), (2, .int (Int32.ofInt 0))], [])
set_option maxRecDepth 100000 in
theorem lm_e90_0 {sc : lm_H} {d : Nat} {x0 : Nat} {x1 : Nat} {σ : lm_S} {r : Except Nat lm_R × lm_S} (h : lm_q90_0 sc (lm_cal sc d) (lm_rn sc d lm_m90.2.2.2.2.1 (lm_reg lm_m90.2.2.2.2.2)) x0 x1  σ = some r) : lm_rn sc d lm_m90.2.2.2.2.1 (lm_reg lm_m90.2.2.2.2.2) (0, [(0, .ref x0), (1, .ref x1)], []) σ = some r := lm_rn_of h
/-- LatticeSuiteModel.evaluate, from 2 on -/
noncomputable def lm_q90_2 (sc : lm_H) (A : Nat → List Value → lm_M lm_R) (B : lm_F → lm_M lm_R) (x0 : Nat) (x1 : Nat) (x2 : Int32) : lm_M lm_R :=
  lm_if .ge x2 (Int32.ofInt 256) (B (85, [(0, .ref x0), (1, .ref x1), (2, .int (Int32.ofInt 0))], [])) (lm_bind (lm_asI (A 158 [.int x2, .int (Int32.ofInt 8)])) fun v1 =>
  B (26, [(0, .ref x0), (1, .ref x1), (2, .int x2), (3, .int (((Int32.ofInt 2) * v1) + (Int32.ofInt 1))), (4, .long (Int64.ofNat 0)), (6, .int (Int32.ofInt 0))], []))
set_option maxRecDepth 100000 in
theorem lm_e90_2 {sc : lm_H} {d : Nat} {x0 : Nat} {x1 : Nat} {x2 : Int32} {σ : lm_S} {r : Except Nat lm_R × lm_S} (h : lm_q90_2 sc (lm_cal sc d) (lm_rn sc d lm_m90.2.2.2.2.1 (lm_reg lm_m90.2.2.2.2.2)) x0 x1 x2  σ = some r) : lm_rn sc d lm_m90.2.2.2.2.1 (lm_reg lm_m90.2.2.2.2.2) (2, [(0, .ref x0), (1, .ref x1), (2, .int x2)], []) σ = some r := lm_rn_of h
/-- LatticeSuiteModel.evaluate, from 85 on -/
noncomputable def lm_q90_85 (sc : lm_H) (A : Nat → List Value → lm_M lm_R) (B : lm_F → lm_M lm_R) (x0 : Nat) (x1 : Nat) (x2 : Int32) : lm_M lm_R :=
  lm_if .ge x2 (Int32.ofInt 256) (lm_ret none) (lm_bind (lm_gR 4502 x0) fun v1 =>
  lm_bind (lm_lald sc v1 x2) fun v2 =>
  lm_bind (lm_iast x1 x2 (Int64.toInt32 v2)) fun _ =>
  B (85, [(0, .ref x0), (1, .ref x1), (2, .int (x2 + Int32.ofInt 1))], []))
set_option maxRecDepth 100000 in
theorem lm_e90_85 {sc : lm_H} {d : Nat} {x0 : Nat} {x1 : Nat} {x2 : Int32} {σ : lm_S} {r : Except Nat lm_R × lm_S} (h : lm_q90_85 sc (lm_cal sc d) (lm_rn sc d lm_m90.2.2.2.2.1 (lm_reg lm_m90.2.2.2.2.2)) x0 x1 x2  σ = some r) : lm_rn sc d lm_m90.2.2.2.2.1 (lm_reg lm_m90.2.2.2.2.2) (85, [(0, .ref x0), (1, .ref x1), (2, .int x2)], []) σ = some r := lm_rn_of h
/-- LatticeSuiteModel.evaluate, from 26 on -/
noncomputable def lm_q90_26 (sc : lm_H) (A : Nat → List Value → lm_M lm_R) (B : lm_F → lm_M lm_R) (x0 : Nat) (x1 : Nat) (x2 : Int32) (x3 : Int32) (x4 : Int64) (x6 : Int32) : lm_M lm_R :=
  lm_if .ge x6 (Int32.ofInt 256) (lm_bind (lm_gR 4502 x0) fun v1 =>
  lm_when (¬ (Int64.ofNat 8380417) = 0) inferInstance (lm_bind (lm_last v1 x2 (lm_remL x4 (Int64.ofNat 8380417))) fun _ =>
  B (2, [(0, .ref x0), (1, .ref x1), (2, .int (x2 + Int32.ofInt 1))], []))) (lm_bind (lm_iald sc x1 x6) fun v2 =>
  lm_bind (lm_gR 4550 x0) fun v3 =>
  lm_bind (lm_iald sc v3 ((x3 * x6) &&& (Int32.ofInt 511))) fun v4 =>
  B (26, [(0, .ref x0), (1, .ref x1), (2, .int x2), (3, .int x3), (4, .long (x4 + ((Int32.toInt64 v2) * (Int32.toInt64 v4)))), (6, .int (x6 + Int32.ofInt 1))], []))
set_option maxRecDepth 100000 in
theorem lm_e90_26 {sc : lm_H} {d : Nat} {x0 : Nat} {x1 : Nat} {x2 : Int32} {x3 : Int32} {x4 : Int64} {x6 : Int32} {σ : lm_S} {r : Except Nat lm_R × lm_S} (h : lm_q90_26 sc (lm_cal sc d) (lm_rn sc d lm_m90.2.2.2.2.1 (lm_reg lm_m90.2.2.2.2.2)) x0 x1 x2 x3 x4 x6  σ = some r) : lm_rn sc d lm_m90.2.2.2.2.1 (lm_reg lm_m90.2.2.2.2.2) (26, [(0, .ref x0), (1, .ref x1), (2, .int x2), (3, .int x3), (4, .long x4), (6, .int x6)], []) σ = some r := lm_rn_of h
/-- LatticeSuiteModel.sampleWide, from 0 on -/
noncomputable def lm_q91_0 (sc : lm_H) (A : Nat → List Value → lm_M lm_R) (B : lm_F → lm_M lm_R) (x0 : Nat) (x1 : Nat) (x2 : Nat) (x3 : Int32) (x4 : Int32) (x5 : Int32) : lm_M lm_R :=
  lm_bind (lm_sel [(11, 61)] (some (.ref x0))) fun y1 =>
  lm_bind (lm_asV (A y1 [.ref x0, .int (Int32.ofInt 11)])) fun _ =>
  lm_bind (lm_sel [(11, 62)] (some (.ref x0))) fun y2 =>
  lm_bind (lm_asV (A y2 [.ref x0, .ref x2, .int x3, .int (Int32.ofInt 32)])) fun _ =>
  lm_bind (lm_sel [(11, 69)] (some (.ref x0))) fun y3 =>
  lm_bind (lm_asV (A y3 [.ref x0, .int x4])) fun _ =>
  lm_bind (lm_sel [(11, 69)] (some (.ref x0))) fun y4 =>
  lm_bind (lm_asV (A y4 [.ref x0, .int x5])) fun _ =>
  lm_bind (lm_sel [(11, 147)] (some (.ref x0))) fun y5 =>
  lm_bind (lm_asV (A y5 [.ref x0])) fun _ =>
  B (36, [(0, .ref x0), (1, .ref x1), (6, .int (Int32.ofInt 0)), (7, .int (Int32.ofInt 0))], [])
set_option maxRecDepth 100000 in
theorem lm_e91_0 {sc : lm_H} {d : Nat} {x0 : Nat} {x1 : Nat} {x2 : Nat} {x3 : Int32} {x4 : Int32} {x5 : Int32} {σ : lm_S} {r : Except Nat lm_R × lm_S} (h : lm_q91_0 sc (lm_cal sc d) (lm_rn sc d lm_m91.2.2.2.2.1 (lm_reg lm_m91.2.2.2.2.2)) x0 x1 x2 x3 x4 x5  σ = some r) : lm_rn sc d lm_m91.2.2.2.2.1 (lm_reg lm_m91.2.2.2.2.2) (0, [(0, .ref x0), (1, .ref x1), (2, .ref x2), (3, .int x3), (4, .int x4), (5, .int x5)], []) σ = some r := lm_rn_of h
/-- LatticeSuiteModel.sampleWide, from 36 on -/
noncomputable def lm_q91_36 (sc : lm_H) (A : Nat → List Value → lm_M lm_R) (B : lm_F → lm_M lm_R) (x0 : Nat) (x1 : Nat) (x6 : Int32) (x7 : Int32) : lm_M lm_R :=
  lm_if .ge x7 (Int32.ofInt 298) (B (114, [(6, .int x6)], [])) (lm_if .ge x6 (Int32.ofInt 256) (B (114, [(6, .int x6)], [])) (lm_bind (lm_sel [(11, 149)] (some (.ref x0))) fun y1 =>
  lm_bind (lm_asI (A y1 [.ref x0])) fun v2 =>
  lm_bind (lm_sel [(11, 149)] (some (.ref x0))) fun y3 =>
  lm_bind (lm_asI (A y3 [.ref x0])) fun v4 =>
  lm_bind (lm_sel [(11, 149)] (some (.ref x0))) fun y5 =>
  lm_bind (lm_asI (A y5 [.ref x0])) fun v6 =>
  lm_when (¬ (Int32.ofInt 128) = 0) inferInstance (lm_if .ge ((v2 + ((Int32.ofInt 256) * v4)) + ((Int32.ofInt 65536) * (lm_rem v6 (Int32.ofInt 128)))) (Int32.ofInt 8380417) (B (108, [(0, .ref x0), (1, .ref x1), (6, .int x6), (7, .int x7)], [])) (lm_bind (lm_iast x1 x6 ((v2 + ((Int32.ofInt 256) * v4)) + ((Int32.ofInt 65536) * (lm_rem v6 (Int32.ofInt 128))))) fun _ =>
  B (108, [(0, .ref x0), (1, .ref x1), (6, .int (x6 + Int32.ofInt 1)), (7, .int x7)], [])))))
set_option maxRecDepth 100000 in
theorem lm_e91_36 {sc : lm_H} {d : Nat} {x0 : Nat} {x1 : Nat} {x6 : Int32} {x7 : Int32} {σ : lm_S} {r : Except Nat lm_R × lm_S} (h : lm_q91_36 sc (lm_cal sc d) (lm_rn sc d lm_m91.2.2.2.2.1 (lm_reg lm_m91.2.2.2.2.2)) x0 x1 x6 x7  σ = some r) : lm_rn sc d lm_m91.2.2.2.2.1 (lm_reg lm_m91.2.2.2.2.2) (36, [(0, .ref x0), (1, .ref x1), (6, .int x6), (7, .int x7)], []) σ = some r := lm_rn_of h
/-- LatticeSuiteModel.sampleWide, from 114 on -/
noncomputable def lm_q91_114 (sc : lm_H) (A : Nat → List Value → lm_M lm_R) (B : lm_F → lm_M lm_R) (x6 : Int32) : lm_M lm_R :=
  lm_if .ne x6 (Int32.ofInt 256) (lm_when ((Int32.ofInt 0) = 0 ∨ (Int32.ofInt 0) = 1) inferInstance (lm_ret (some (.int (Int32.ofInt 0))))) (lm_when ((Int32.ofInt 1) = 0 ∨ (Int32.ofInt 1) = 1) inferInstance (lm_ret (some (.int (Int32.ofInt 1)))))
set_option maxRecDepth 100000 in
theorem lm_e91_114 {sc : lm_H} {d : Nat} {x6 : Int32} {σ : lm_S} {r : Except Nat lm_R × lm_S} (h : lm_q91_114 sc (lm_cal sc d) (lm_rn sc d lm_m91.2.2.2.2.1 (lm_reg lm_m91.2.2.2.2.2)) x6  σ = some r) : lm_rn sc d lm_m91.2.2.2.2.1 (lm_reg lm_m91.2.2.2.2.2) (114, [(6, .int x6)], []) σ = some r := lm_rn_of h
/-- LatticeSuiteModel.sampleWide, from 108 on -/
noncomputable def lm_q91_108 (sc : lm_H) (A : Nat → List Value → lm_M lm_R) (B : lm_F → lm_M lm_R) (x0 : Nat) (x1 : Nat) (x6 : Int32) (x7 : Int32) : lm_M lm_R :=
  B (36, [(0, .ref x0), (1, .ref x1), (6, .int x6), (7, .int (x7 + Int32.ofInt 1))], [])
set_option maxRecDepth 100000 in
theorem lm_e91_108 {sc : lm_H} {d : Nat} {x0 : Nat} {x1 : Nat} {x6 : Int32} {x7 : Int32} {σ : lm_S} {r : Except Nat lm_R × lm_S} (h : lm_q91_108 sc (lm_cal sc d) (lm_rn sc d lm_m91.2.2.2.2.1 (lm_reg lm_m91.2.2.2.2.2)) x0 x1 x6 x7  σ = some r) : lm_rn sc d lm_m91.2.2.2.2.1 (lm_reg lm_m91.2.2.2.2.2) (108, [(0, .ref x0), (1, .ref x1), (6, .int x6), (7, .int x7)], []) σ = some r := lm_rn_of h
/-- LatticeSuiteModel.addProducts, from 0 on -/
noncomputable def lm_q92_0 (sc : lm_H) (A : Nat → List Value → lm_M lm_R) (B : lm_F → lm_M lm_R) (x0 : Nat) (x1 : Nat) (x2 : Nat) : lm_M lm_R :=
  B (2, [(0, .ref x0), (1, .ref x1), (2, .ref x2), (3, .int (Int32.ofInt 0))], [])
set_option maxRecDepth 100000 in
theorem lm_e92_0 {sc : lm_H} {d : Nat} {x0 : Nat} {x1 : Nat} {x2 : Nat} {σ : lm_S} {r : Except Nat lm_R × lm_S} (h : lm_q92_0 sc (lm_cal sc d) (lm_rn sc d lm_m92.2.2.2.2.1 (lm_reg lm_m92.2.2.2.2.2)) x0 x1 x2  σ = some r) : lm_rn sc d lm_m92.2.2.2.2.1 (lm_reg lm_m92.2.2.2.2.2) (0, [(0, .ref x0), (1, .ref x1), (2, .ref x2)], []) σ = some r := lm_rn_of h
/-- LatticeSuiteModel.addProducts, from 2 on -/
noncomputable def lm_q92_2 (sc : lm_H) (A : Nat → List Value → lm_M lm_R) (B : lm_F → lm_M lm_R) (x0 : Nat) (x1 : Nat) (x2 : Nat) (x3 : Int32) : lm_M lm_R :=
  lm_if .ge x3 (Int32.ofInt 256) (lm_ret none) (lm_bind (lm_iald sc x0 x3) fun v1 =>
  lm_bind (lm_iald sc x1 x3) fun v2 =>
  lm_bind (lm_iald sc x2 x3) fun v3 =>
  lm_when (¬ (Int64.ofNat 8380417) = 0) inferInstance (lm_bind (lm_iast x0 x3 (Int64.toInt32 (lm_remL ((Int32.toInt64 v1) + ((Int32.toInt64 v2) * (Int32.toInt64 v3))) (Int64.ofNat 8380417)))) fun _ =>
  B (2, [(0, .ref x0), (1, .ref x1), (2, .ref x2), (3, .int (x3 + Int32.ofInt 1))], [])))
set_option maxRecDepth 100000 in
theorem lm_e92_2 {sc : lm_H} {d : Nat} {x0 : Nat} {x1 : Nat} {x2 : Nat} {x3 : Int32} {σ : lm_S} {r : Except Nat lm_R × lm_S} (h : lm_q92_2 sc (lm_cal sc d) (lm_rn sc d lm_m92.2.2.2.2.1 (lm_reg lm_m92.2.2.2.2.2)) x0 x1 x2 x3  σ = some r) : lm_rn sc d lm_m92.2.2.2.2.1 (lm_reg lm_m92.2.2.2.2.2) (2, [(0, .ref x0), (1, .ref x1), (2, .ref x2), (3, .int x3)], []) σ = some r := lm_rn_of h
/-- LatticeSuiteModel.interpolate, from 0 on -/
noncomputable def lm_q93_0 (sc : lm_H) (A : Nat → List Value → lm_M lm_R) (B : lm_F → lm_M lm_R) (x0 : Nat) (x1 : Nat) : lm_M lm_R :=
  B (2, [(0, .ref x0), (1, .ref x1), (2, .int (Int32.ofInt 0))], [])
set_option maxRecDepth 100000 in
theorem lm_e93_0 {sc : lm_H} {d : Nat} {x0 : Nat} {x1 : Nat} {σ : lm_S} {r : Except Nat lm_R × lm_S} (h : lm_q93_0 sc (lm_cal sc d) (lm_rn sc d lm_m93.2.2.2.2.1 (lm_reg lm_m93.2.2.2.2.2)) x0 x1  σ = some r) : lm_rn sc d lm_m93.2.2.2.2.1 (lm_reg lm_m93.2.2.2.2.2) (0, [(0, .ref x0), (1, .ref x1)], []) σ = some r := lm_rn_of h
/-- LatticeSuiteModel.interpolate, from 2 on -/
noncomputable def lm_q93_2 (sc : lm_H) (A : Nat → List Value → lm_M lm_R) (B : lm_F → lm_M lm_R) (x0 : Nat) (x1 : Nat) (x2 : Int32) : lm_M lm_R :=
  lm_if .ge x2 (Int32.ofInt 256) (B (95, [(0, .ref x0), (1, .ref x1), (2, .int (Int32.ofInt 0))], [])) (B (14, [(0, .ref x0), (1, .ref x1), (2, .int x2), (3, .long (Int64.ofNat 0)), (5, .int (Int32.ofInt 0))], []))
set_option maxRecDepth 100000 in
theorem lm_e93_2 {sc : lm_H} {d : Nat} {x0 : Nat} {x1 : Nat} {x2 : Int32} {σ : lm_S} {r : Except Nat lm_R × lm_S} (h : lm_q93_2 sc (lm_cal sc d) (lm_rn sc d lm_m93.2.2.2.2.1 (lm_reg lm_m93.2.2.2.2.2)) x0 x1 x2  σ = some r) : lm_rn sc d lm_m93.2.2.2.2.1 (lm_reg lm_m93.2.2.2.2.2) (2, [(0, .ref x0), (1, .ref x1), (2, .int x2)], []) σ = some r := lm_rn_of h
/-- LatticeSuiteModel.interpolate, from 95 on -/
noncomputable def lm_q93_95 (sc : lm_H) (A : Nat → List Value → lm_M lm_R) (B : lm_F → lm_M lm_R) (x0 : Nat) (x1 : Nat) (x2 : Int32) : lm_M lm_R :=
  lm_if .ge x2 (Int32.ofInt 256) (lm_ret none) (lm_bind (lm_gR 4502 x0) fun v1 =>
  lm_bind (lm_lald sc v1 x2) fun v2 =>
  lm_bind (lm_iast x1 x2 (Int64.toInt32 v2)) fun _ =>
  B (95, [(0, .ref x0), (1, .ref x1), (2, .int (x2 + Int32.ofInt 1))], []))
set_option maxRecDepth 100000 in
theorem lm_e93_95 {sc : lm_H} {d : Nat} {x0 : Nat} {x1 : Nat} {x2 : Int32} {σ : lm_S} {r : Except Nat lm_R × lm_S} (h : lm_q93_95 sc (lm_cal sc d) (lm_rn sc d lm_m93.2.2.2.2.1 (lm_reg lm_m93.2.2.2.2.2)) x0 x1 x2  σ = some r) : lm_rn sc d lm_m93.2.2.2.2.1 (lm_reg lm_m93.2.2.2.2.2) (95, [(0, .ref x0), (1, .ref x1), (2, .int x2)], []) σ = some r := lm_rn_of h
/-- LatticeSuiteModel.interpolate, from 14 on -/
noncomputable def lm_q93_14 (sc : lm_H) (A : Nat → List Value → lm_M lm_R) (B : lm_F → lm_M lm_R) (x0 : Nat) (x1 : Nat) (x2 : Int32) (x3 : Int64) (x5 : Int32) : lm_M lm_R :=
  lm_if .ge x5 (Int32.ofInt 256) (lm_bind (lm_gR 4502 x0) fun v1 =>
  lm_when (¬ (Int64.ofNat 8380417) = 0) inferInstance (lm_when (¬ (Int64.ofNat 8380417) = 0) inferInstance (lm_bind (lm_last v1 x2 (lm_remL ((lm_remL x3 (Int64.ofNat 8380417)) * (Int64.ofNat 8347681)) (Int64.ofNat 8380417))) fun _ =>
  B (2, [(0, .ref x0), (1, .ref x1), (2, .int (x2 + Int32.ofInt 1))], [])))) (lm_bind (lm_iald sc x1 x5) fun v2 =>
  lm_bind (lm_gR 4550 x0) fun v3 =>
  lm_bind (lm_asI (A 158 [.int x5, .int (Int32.ofInt 8)])) fun v4 =>
  lm_bind (lm_iald sc v3 (((Int32.ofInt 512) - (((((Int32.ofInt 2) * v4) + (Int32.ofInt 1)) * x2) &&& (Int32.ofInt 511))) &&& (Int32.ofInt 511))) fun v5 =>
  B (14, [(0, .ref x0), (1, .ref x1), (2, .int x2), (3, .long (x3 + ((Int32.toInt64 v2) * (Int32.toInt64 v5)))), (5, .int (x5 + Int32.ofInt 1))], []))
set_option maxRecDepth 100000 in
theorem lm_e93_14 {sc : lm_H} {d : Nat} {x0 : Nat} {x1 : Nat} {x2 : Int32} {x3 : Int64} {x5 : Int32} {σ : lm_S} {r : Except Nat lm_R × lm_S} (h : lm_q93_14 sc (lm_cal sc d) (lm_rn sc d lm_m93.2.2.2.2.1 (lm_reg lm_m93.2.2.2.2.2)) x0 x1 x2 x3 x5  σ = some r) : lm_rn sc d lm_m93.2.2.2.2.1 (lm_reg lm_m93.2.2.2.2.2) (14, [(0, .ref x0), (1, .ref x1), (2, .int x2), (3, .long x3), (5, .int x5)], []) σ = some r := lm_rn_of h
/-- LatticeSuiteModel.secretLength, from 0 on -/
noncomputable def lm_q94_0 (sc : lm_H) (A : Nat → List Value → lm_M lm_R) (B : lm_F → lm_M lm_R) (x0 : Nat) : lm_M lm_R :=
  lm_bind (lm_gI 4568 x0) fun v1 =>
  lm_bind (lm_gI 4528 x0) fun v2 =>
  lm_bind (lm_gI 4572 x0) fun v3 =>
  lm_if .ne v3 (Int32.ofInt 2) (B (27, [(0, .ref x0)], [.int (Int32.ofInt 4), .int (v1 + v2), .int (Int32.ofInt 32), .int (Int32.ofInt 128)])) (B (27, [(0, .ref x0)], [.int (Int32.ofInt 3), .int (v1 + v2), .int (Int32.ofInt 32), .int (Int32.ofInt 128)]))
set_option maxRecDepth 100000 in
theorem lm_e94_0 {sc : lm_H} {d : Nat} {x0 : Nat} {σ : lm_S} {r : Except Nat lm_R × lm_S} (h : lm_q94_0 sc (lm_cal sc d) (lm_rn sc d lm_m94.2.2.2.2.1 (lm_reg lm_m94.2.2.2.2.2)) x0  σ = some r) : lm_rn sc d lm_m94.2.2.2.2.1 (lm_reg lm_m94.2.2.2.2.2) (0, [(0, .ref x0)], []) σ = some r := lm_rn_of h
/-- LatticeSuiteModel.secretLength, from 27 on -/
noncomputable def lm_q94_27 (sc : lm_H) (A : Nat → List Value → lm_M lm_R) (B : lm_F → lm_M lm_R) (x0 : Nat) (s0 : Int32) (s1 : Int32) (s2 : Int32) (s3 : Int32) : lm_M lm_R :=
  lm_bind (lm_gI 4528 x0) fun v1 =>
  lm_ret (some (.int (s3 + (s2 * ((s1 * s0) + ((Int32.ofInt 13) * v1))))))
set_option maxRecDepth 100000 in
theorem lm_e94_27 {sc : lm_H} {d : Nat} {x0 : Nat} {s0 : Int32} {s1 : Int32} {s2 : Int32} {s3 : Int32} {σ : lm_S} {r : Except Nat lm_R × lm_S} (h : lm_q94_27 sc (lm_cal sc d) (lm_rn sc d lm_m94.2.2.2.2.1 (lm_reg lm_m94.2.2.2.2.2)) x0 s0 s1 s2 s3 σ = some r) : lm_rn sc d lm_m94.2.2.2.2.1 (lm_reg lm_m94.2.2.2.2.2) (27, [(0, .ref x0)], [.int s0, .int s1, .int s2, .int s3]) σ = some r := lm_rn_of h
/-- LatticeSuite.dsaSign, from 0 on -/
noncomputable def lm_q95_0 (sc : lm_H) (A : Nat → List Value → lm_M lm_R) (B : lm_F → lm_M lm_R) (x0 : Nat) (x1 : Int32) (x2 : Int32) : lm_M lm_R :=
  lm_bind (lm_asV (A 132 [.int x1, .int (Int32.ofInt 0), .int (Int32.ofInt 2)])) fun _ =>
  lm_bind (lm_asV (A 132 [.int x2, .int (Int32.ofInt (-1)), .int (Int32.ofInt 12)])) fun _ =>
  lm_bind (lm_gR 14 x0) fun v1 =>
  lm_bind (lm_sel [(4, 168)] (some (.ref v1))) fun y2 =>
  lm_bind (lm_asI (A y2 [.ref v1, .int x2])) fun v3 =>
  lm_bind (lm_asV (A 150 [.int v3])) fun _ =>
  lm_bind (lm_gR 2 x0) fun v4 =>
  lm_bind (lm_aaR sc v4 (Int32.ofInt 0)) fun v5 =>
  lm_bind (lm_gI 404 v5) fun v6 =>
  lm_if .eq v6 (Int32.ofInt 32) (B (50, [(0, .ref x0), (1, .int x1), (2, .int x2)], [])) (lm_bind (lm_gR 2 x0) fun v7 =>
  lm_bind (lm_aaR sc v7 (Int32.ofInt 0)) fun v8 =>
  lm_bind (lm_gI 404 v8) fun v9 =>
  lm_if .ne v9 0 (B (55, [(0, .ref x0), (1, .int x1), (2, .int x2)], [.int (Int32.ofInt 0)])) (B (50, [(0, .ref x0), (1, .int x1), (2, .int x2)], [])))
set_option maxRecDepth 100000 in
theorem lm_e95_0 {sc : lm_H} {d : Nat} {x0 : Nat} {x1 : Int32} {x2 : Int32} {σ : lm_S} {r : Except Nat lm_R × lm_S} (h : lm_q95_0 sc (lm_cal sc d) (lm_rn sc d lm_m95.2.2.2.2.1 (lm_reg lm_m95.2.2.2.2.2)) x0 x1 x2  σ = some r) : lm_rn sc d lm_m95.2.2.2.2.1 (lm_reg lm_m95.2.2.2.2.2) (0, [(0, .ref x0), (1, .int x1), (2, .int x2)], []) σ = some r := lm_rn_of h
/-- LatticeSuite.dsaSign, from 50 on -/
noncomputable def lm_q95_50 (sc : lm_H) (A : Nat → List Value → lm_M lm_R) (B : lm_F → lm_M lm_R) (x0 : Nat) (x1 : Int32) (x2 : Int32) : lm_M lm_R :=
  B (55, [(0, .ref x0), (1, .int x1), (2, .int x2)], [.int (Int32.ofInt 1)])
set_option maxRecDepth 100000 in
theorem lm_e95_50 {sc : lm_H} {d : Nat} {x0 : Nat} {x1 : Int32} {x2 : Int32} {σ : lm_S} {r : Except Nat lm_R × lm_S} (h : lm_q95_50 sc (lm_cal sc d) (lm_rn sc d lm_m95.2.2.2.2.1 (lm_reg lm_m95.2.2.2.2.2)) x0 x1 x2  σ = some r) : lm_rn sc d lm_m95.2.2.2.2.1 (lm_reg lm_m95.2.2.2.2.2) (50, [(0, .ref x0), (1, .int x1), (2, .int x2)], []) σ = some r := lm_rn_of h
/-- LatticeSuite.dsaSign, from 55 on -/
noncomputable def lm_q95_55 (sc : lm_H) (A : Nat → List Value → lm_M lm_R) (B : lm_F → lm_M lm_R) (x0 : Nat) (x1 : Int32) (x2 : Int32) (s0 : Int32) : lm_M lm_R :=
  lm_bind (lm_asV (A 150 [.int s0])) fun _ =>
  lm_bind (lm_gR 22 x0) fun v1 =>
  lm_bind (lm_sel [(9, 165)] (some (.ref v1))) fun y2 =>
  lm_bind (lm_asV (A y2 [.ref v1, .int x1])) fun _ =>
  lm_bind (lm_gR 2 x0) fun v3 =>
  lm_bind (lm_aaR sc v3 (Int32.ofInt 2)) fun v4 =>
  lm_bind (lm_gI 404 v4) fun v5 =>
  lm_bind (lm_gR 22 x0) fun v6 =>
  lm_bind (lm_sel [(9, 169)] (some (.ref v6))) fun y7 =>
  lm_bind (lm_asI (A y7 [.ref v6])) fun v8 =>
  lm_if .ne v5 v8 (B (90, [(0, .ref x0), (2, .int x2)], [.int (Int32.ofInt 0)])) (B (90, [(0, .ref x0), (2, .int x2)], [.int (Int32.ofInt 1)]))
set_option maxRecDepth 100000 in
theorem lm_e95_55 {sc : lm_H} {d : Nat} {x0 : Nat} {x1 : Int32} {x2 : Int32} {s0 : Int32} {σ : lm_S} {r : Except Nat lm_R × lm_S} (h : lm_q95_55 sc (lm_cal sc d) (lm_rn sc d lm_m95.2.2.2.2.1 (lm_reg lm_m95.2.2.2.2.2)) x0 x1 x2 s0 σ = some r) : lm_rn sc d lm_m95.2.2.2.2.1 (lm_reg lm_m95.2.2.2.2.2) (55, [(0, .ref x0), (1, .int x1), (2, .int x2)], [.int s0]) σ = some r := lm_rn_of h
/-- LatticeSuite.dsaSign, from 90 on -/
noncomputable def lm_q95_90 (sc : lm_H) (A : Nat → List Value → lm_M lm_R) (B : lm_F → lm_M lm_R) (x0 : Nat) (x2 : Int32) (s0 : Int32) : lm_M lm_R :=
  lm_bind (lm_asV (A 160 [.int s0])) fun _ =>
  lm_bind (lm_gR 14 x0) fun v1 =>
  lm_bind (lm_sel [(4, 170)] (some (.ref v1))) fun y2 =>
  lm_bind (lm_asV (A y2 [.ref v1, .int x2])) fun _ =>
  lm_bind (lm_gR 22 x0) fun v3 =>
  lm_bind (lm_gR 2 x0) fun v4 =>
  lm_bind (lm_aaR sc v4 (Int32.ofInt 2)) fun v5 =>
  lm_bind (lm_gR 402 v5) fun v6 =>
  lm_bind (lm_gR 2 x0) fun v7 =>
  lm_bind (lm_aaR sc v7 (Int32.ofInt 0)) fun v8 =>
  lm_bind (lm_gR 14 x0) fun v9 =>
  lm_bind (lm_gR 2 x0) fun v10 =>
  lm_bind (lm_aaR sc v10 (Int32.ofInt 5)) fun v11 =>
  lm_bind (lm_sel [(9, 171)] (some (.ref v3))) fun y12 =>
  lm_bind (lm_asI (A y12 [.ref v3, .ref v6, .ref v8, .ref v9, .ref v11])) fun v13 =>
  lm_ret (some (.int v13))
set_option maxRecDepth 100000 in
theorem lm_e95_90 {sc : lm_H} {d : Nat} {x0 : Nat} {x2 : Int32} {s0 : Int32} {σ : lm_S} {r : Except Nat lm_R × lm_S} (h : lm_q95_90 sc (lm_cal sc d) (lm_rn sc d lm_m95.2.2.2.2.1 (lm_reg lm_m95.2.2.2.2.2)) x0 x2 s0 σ = some r) : lm_rn sc d lm_m95.2.2.2.2.1 (lm_reg lm_m95.2.2.2.2.2) (90, [(0, .ref x0), (2, .int x2)], [.int s0]) σ = some r := lm_rn_of h
/-- LatticeSuiteModel.context, from 0 on -/
noncomputable def lm_q96_0 (sc : lm_H) (A : Nat → List Value → lm_M lm_R) (B : lm_F → lm_M lm_R) (x0 : Nat) (x1 : Int32) : lm_M lm_R :=
  lm_if .lt x1 0 (B (16, [], [])) (lm_bind (lm_gR 4410 x0) fun v1 =>
  lm_bind (lm_iald sc v1 (Int32.ofInt 4)) fun v2 =>
  lm_if .gt v2 (Int32.ofInt 255) (lm_when ((Int32.ofInt 0) = 0 ∨ (Int32.ofInt 0) = 1) inferInstance (lm_ret (some (.int (Int32.ofInt 0))))) (B (16, [], [])))
set_option maxRecDepth 100000 in
theorem lm_e96_0 {sc : lm_H} {d : Nat} {x0 : Nat} {x1 : Int32} {σ : lm_S} {r : Except Nat lm_R × lm_S} (h : lm_q96_0 sc (lm_cal sc d) (lm_rn sc d lm_m96.2.2.2.2.1 (lm_reg lm_m96.2.2.2.2.2)) x0 x1  σ = some r) : lm_rn sc d lm_m96.2.2.2.2.1 (lm_reg lm_m96.2.2.2.2.2) (0, [(0, .ref x0), (1, .int x1)], []) σ = some r := lm_rn_of h
/-- LatticeSuiteModel.context, from 16 on -/
noncomputable def lm_q96_16 (sc : lm_H) (A : Nat → List Value → lm_M lm_R) (B : lm_F → lm_M lm_R)  : lm_M lm_R :=
  lm_when ((Int32.ofInt 1) = 0 ∨ (Int32.ofInt 1) = 1) inferInstance (lm_ret (some (.int (Int32.ofInt 1))))
set_option maxRecDepth 100000 in
theorem lm_e96_16 {sc : lm_H} {d : Nat}  {σ : lm_S} {r : Except Nat lm_R × lm_S} (h : lm_q96_16 sc (lm_cal sc d) (lm_rn sc d lm_m96.2.2.2.2.1 (lm_reg lm_m96.2.2.2.2.2))   σ = some r) : lm_rn sc d lm_m96.2.2.2.2.1 (lm_reg lm_m96.2.2.2.2.2) (16, [], []) σ = some r := lm_rn_of h
/-- LatticeSuiteModel.digestMessage, from 0 on -/
noncomputable def lm_q97_0 (sc : lm_H) (A : Nat → List Value → lm_M lm_R) (B : lm_F → lm_M lm_R) (x0 : Nat) (x1 : Nat) (x2 : Int32) (x3 : Int32) : lm_M lm_R :=
  lm_bind (lm_sel [(11, 111)] (some (.ref x0))) fun y1 =>
  lm_bind (lm_asV (A y1 [.ref x0, .int x3])) fun _ =>
  lm_bind (lm_sel [(11, 61)] (some (.ref x0))) fun y2 =>
  lm_bind (lm_asV (A y2 [.ref x0, .int (Int32.ofInt 12)])) fun _ =>
  lm_bind (lm_sel [(11, 62)] (some (.ref x0))) fun y3 =>
  lm_bind (lm_asV (A y3 [.ref x0, .ref x1, .int x2, .int (Int32.ofInt 64)])) fun _ =>
  lm_bind (lm_sel [(11, 113)] (some (.ref x0))) fun y4 =>
  lm_bind (lm_asV (A y4 [.ref x0, .int x3])) fun _ =>
  lm_bind (lm_gR 4606 x0) fun v5 =>
  lm_bind (lm_sel [(11, 63)] (some (.ref x0))) fun y6 =>
  lm_bind (lm_asV (A y6 [.ref x0, .ref v5, .int (Int32.ofInt 0), .int (Int32.ofInt 64)])) fun _ =>
  lm_ret none
set_option maxRecDepth 100000 in
theorem lm_e97_0 {sc : lm_H} {d : Nat} {x0 : Nat} {x1 : Nat} {x2 : Int32} {x3 : Int32} {σ : lm_S} {r : Except Nat lm_R × lm_S} (h : lm_q97_0 sc (lm_cal sc d) (lm_rn sc d lm_m97.2.2.2.2.1 (lm_reg lm_m97.2.2.2.2.2)) x0 x1 x2 x3  σ = some r) : lm_rn sc d lm_m97.2.2.2.2.1 (lm_reg lm_m97.2.2.2.2.2) (0, [(0, .ref x0), (1, .ref x1), (2, .int x2), (3, .int x3)], []) σ = some r := lm_rn_of h
/-- LatticeSuiteModel.unpack, from 0 on -/
noncomputable def lm_q98_0 (sc : lm_H) (A : Nat → List Value → lm_M lm_R) (B : lm_F → lm_M lm_R) (x0 : Nat) (x1 : Nat) (x2 : Int32) (x3 : Nat) (x4 : Int32) (x5 : Int32) : lm_M lm_R :=
  B (3, [(0, .ref x0), (1, .ref x1), (2, .int x2), (3, .ref x3), (4, .int x4), (5, .int x5), (6, .int (Int32.ofInt 0))], [])
set_option maxRecDepth 100000 in
theorem lm_e98_0 {sc : lm_H} {d : Nat} {x0 : Nat} {x1 : Nat} {x2 : Int32} {x3 : Nat} {x4 : Int32} {x5 : Int32} {σ : lm_S} {r : Except Nat lm_R × lm_S} (h : lm_q98_0 sc (lm_cal sc d) (lm_rn sc d lm_m98.2.2.2.2.1 (lm_reg lm_m98.2.2.2.2.2)) x0 x1 x2 x3 x4 x5  σ = some r) : lm_rn sc d lm_m98.2.2.2.2.1 (lm_reg lm_m98.2.2.2.2.2) (0, [(0, .ref x0), (1, .ref x1), (2, .int x2), (3, .ref x3), (4, .int x4), (5, .int x5)], []) σ = some r := lm_rn_of h
/-- LatticeSuiteModel.unpack, from 3 on -/
noncomputable def lm_q98_3 (sc : lm_H) (A : Nat → List Value → lm_M lm_R) (B : lm_F → lm_M lm_R) (x0 : Nat) (x1 : Nat) (x2 : Int32) (x3 : Nat) (x4 : Int32) (x5 : Int32) (x6 : Int32) : lm_M lm_R :=
  lm_if .ge x6 (Int32.ofInt 256) (lm_ret none) (lm_bind (lm_sel [(11, 77)] (some (.ref x0))) fun y1 =>
  lm_bind (lm_asI (A y1 [.ref x0, .ref x1, .int x2, .int x5])) fun v2 =>
  lm_bind (lm_iast x3 x6 (x4 - v2)) fun _ =>
  B (3, [(0, .ref x0), (1, .ref x1), (2, .int x2), (3, .ref x3), (4, .int x4), (5, .int x5), (6, .int (x6 + Int32.ofInt 1))], []))
set_option maxRecDepth 100000 in
theorem lm_e98_3 {sc : lm_H} {d : Nat} {x0 : Nat} {x1 : Nat} {x2 : Int32} {x3 : Nat} {x4 : Int32} {x5 : Int32} {x6 : Int32} {σ : lm_S} {r : Except Nat lm_R × lm_S} (h : lm_q98_3 sc (lm_cal sc d) (lm_rn sc d lm_m98.2.2.2.2.1 (lm_reg lm_m98.2.2.2.2.2)) x0 x1 x2 x3 x4 x5 x6  σ = some r) : lm_rn sc d lm_m98.2.2.2.2.1 (lm_reg lm_m98.2.2.2.2.2) (3, [(0, .ref x0), (1, .ref x1), (2, .int x2), (3, .ref x3), (4, .int x4), (5, .int x5), (6, .int x6)], []) σ = some r := lm_rn_of h
/-- LatticeSuiteModel.attempt, from 0 on -/
noncomputable def lm_q99_0 (sc : lm_H) (A : Nat → List Value → lm_M lm_R) (B : lm_F → lm_M lm_R) (x0 : Nat) (x1 : Int32) : lm_M lm_R :=
  B (2, [(0, .ref x0), (1, .int x1), (2, .int (Int32.ofInt 0))], [])
set_option maxRecDepth 100000 in
theorem lm_e99_0 {sc : lm_H} {d : Nat} {x0 : Nat} {x1 : Int32} {σ : lm_S} {r : Except Nat lm_R × lm_S} (h : lm_q99_0 sc (lm_cal sc d) (lm_rn sc d lm_m99.2.2.2.2.1 (lm_reg lm_m99.2.2.2.2.2)) x0 x1  σ = some r) : lm_rn sc d lm_m99.2.2.2.2.1 (lm_reg lm_m99.2.2.2.2.2) (0, [(0, .ref x0), (1, .int x1)], []) σ = some r := lm_rn_of h
/-- LatticeSuiteModel.attempt, from 2 on -/
noncomputable def lm_q99_2 (sc : lm_H) (A : Nat → List Value → lm_M lm_R) (B : lm_F → lm_M lm_R) (x0 : Nat) (x1 : Int32) (x2 : Int32) : lm_M lm_R :=
  lm_bind (lm_gI 4568 x0) fun v1 =>
  lm_if .ge x2 v1 (B (99, [(0, .ref x0), (2, .int (Int32.ofInt 0))], [])) (lm_bind (lm_sel [(11, 61)] (some (.ref x0))) fun y2 =>
  lm_bind (lm_asV (A y2 [.ref x0, .int (Int32.ofInt 12)])) fun _ =>
  lm_bind (lm_gR 4610 x0) fun v3 =>
  lm_bind (lm_sel [(11, 62)] (some (.ref x0))) fun y4 =>
  lm_bind (lm_asV (A y4 [.ref x0, .ref v3, .int (Int32.ofInt 0), .int (Int32.ofInt 64)])) fun _ =>
  lm_bind (lm_sel [(11, 69)] (some (.ref x0))) fun y5 =>
  lm_bind (lm_asV (A y5 [.ref x0, .int (x1 + x2)])) fun _ =>
  lm_bind (lm_sel [(11, 69)] (some (.ref x0))) fun y6 =>
  lm_bind (lm_asV (A y6 [.ref x0, .int ((x1 + x2) >>> ((Int32.ofInt 8) &&& 31))])) fun _ =>
  lm_bind (lm_gR 4562 x0) fun v7 =>
  lm_bind (lm_gI 4596 x0) fun v8 =>
  lm_bind (lm_sel [(11, 63)] (some (.ref x0))) fun y9 =>
  lm_bind (lm_asV (A y9 [.ref x0, .ref v7, .int (Int32.ofInt 0), .int ((Int32.ofInt 32) * v8)])) fun _ =>
  lm_bind (lm_putf 4496 x0 (.int (Int32.ofInt 0))) fun _ =>
  lm_bind (lm_gR 4562 x0) fun v10 =>
  lm_bind (lm_gR 4554 x0) fun v11 =>
  lm_bind (lm_aaR sc v11 ((Int32.ofInt 23) + x2)) fun v12 =>
  lm_bind (lm_gI 4580 x0) fun v13 =>
  lm_bind (lm_gI 4596 x0) fun v14 =>
  lm_bind (lm_sel [(11, 98)] (some (.ref x0))) fun y15 =>
  lm_bind (lm_asV (A y15 [.ref x0, .ref v10, .int (Int32.ofInt 0), .ref v12, .int v13, .int v14])) fun _ =>
  B (2, [(0, .ref x0), (1, .int x1), (2, .int (x2 + Int32.ofInt 1))], []))
set_option maxRecDepth 100000 in
theorem lm_e99_2 {sc : lm_H} {d : Nat} {x0 : Nat} {x1 : Int32} {x2 : Int32} {σ : lm_S} {r : Except Nat lm_R × lm_S} (h : lm_q99_2 sc (lm_cal sc d) (lm_rn sc d lm_m99.2.2.2.2.1 (lm_reg lm_m99.2.2.2.2.2)) x0 x1 x2  σ = some r) : lm_rn sc d lm_m99.2.2.2.2.1 (lm_reg lm_m99.2.2.2.2.2) (2, [(0, .ref x0), (1, .int x1), (2, .int x2)], []) σ = some r := lm_rn_of h
/-- LatticeSuiteModel.attempt, from 99 on -/
noncomputable def lm_q99_99 (sc : lm_H) (A : Nat → List Value → lm_M lm_R) (B : lm_F → lm_M lm_R) (x0 : Nat) (x2 : Int32) : lm_M lm_R :=
  lm_bind (lm_gI 4528 x0) fun v1 =>
  lm_if .ge x2 v1 (lm_bind (lm_gR 4614 x0) fun v2 =>
  lm_bind (lm_sel [(11, 105)] (some (.ref x0))) fun y3 =>
  lm_bind (lm_asV (A y3 [.ref x0, .int (Int32.ofInt 38), .ref v2])) fun _ =>
  lm_bind (lm_gR 4554 x0) fun v4 =>
  lm_bind (lm_aaR sc v4 (Int32.ofInt 46)) fun v5 =>
  lm_bind (lm_gR 4614 x0) fun v6 =>
  lm_bind (lm_sel [(11, 102)] (some (.ref x0))) fun y7 =>
  lm_bind (lm_asI (A y7 [.ref x0, .ref v5, .ref v6, .int (Int32.ofInt 0)])) fun v8 =>
  lm_if .ne v8 0 (lm_bind (lm_gI 4576 x0) fun v9 =>
  lm_bind (lm_gI 4572 x0) fun v10 =>
  B (347, [(0, .ref x0), (2, .int (v9 * v10)), (3, .int (Int32.ofInt 0))], [])) (lm_ret (some (.int (Int32.ofInt (-1)))))) (lm_bind (lm_gR 4554 x0) fun v11 =>
  lm_bind (lm_aaR sc v11 ((Int32.ofInt 30) + x2)) fun v12 =>
  lm_bind (lm_asV (A 81 [.ref v12])) fun _ =>
  B (121, [(0, .ref x0), (2, .int x2), (3, .int (Int32.ofInt 0))], []))
set_option maxRecDepth 100000 in
theorem lm_e99_99 {sc : lm_H} {d : Nat} {x0 : Nat} {x2 : Int32} {σ : lm_S} {r : Except Nat lm_R × lm_S} (h : lm_q99_99 sc (lm_cal sc d) (lm_rn sc d lm_m99.2.2.2.2.1 (lm_reg lm_m99.2.2.2.2.2)) x0 x2  σ = some r) : lm_rn sc d lm_m99.2.2.2.2.1 (lm_reg lm_m99.2.2.2.2.2) (99, [(0, .ref x0), (2, .int x2)], []) σ = some r := lm_rn_of h
/-- LatticeSuiteModel.attempt, from 347 on -/
noncomputable def lm_q99_347 (sc : lm_H) (A : Nat → List Value → lm_M lm_R) (B : lm_F → lm_M lm_R) (x0 : Nat) (x2 : Int32) (x3 : Int32) : lm_M lm_R :=
  lm_bind (lm_gI 4568 x0) fun v1 =>
  lm_if .ge x3 v1 (B (479, [(0, .ref x0), (2, .int x2), (3, .int (Int32.ofInt 0)), (4, .int (Int32.ofInt 0)), (5, .int (Int32.ofInt 0))], [])) (lm_bind (lm_gR 4554 x0) fun v2 =>
  lm_bind (lm_aaR sc v2 (Int32.ofInt 47)) fun v3 =>
  lm_bind (lm_gR 4554 x0) fun v4 =>
  lm_bind (lm_aaR sc v4 (Int32.ofInt 46)) fun v5 =>
  lm_bind (lm_gR 4554 x0) fun v6 =>
  lm_bind (lm_aaR sc v6 x3) fun v7 =>
  lm_bind (lm_sel [(11, 172)] (some (.ref x0))) fun y8 =>
  lm_bind (lm_asV (A y8 [.ref x0, .ref v3, .ref v5, .ref v7])) fun _ =>
  B (382, [(0, .ref x0), (2, .int x2), (3, .int x3), (4, .int (Int32.ofInt 0))], []))
set_option maxRecDepth 100000 in
theorem lm_e99_347 {sc : lm_H} {d : Nat} {x0 : Nat} {x2 : Int32} {x3 : Int32} {σ : lm_S} {r : Except Nat lm_R × lm_S} (h : lm_q99_347 sc (lm_cal sc d) (lm_rn sc d lm_m99.2.2.2.2.1 (lm_reg lm_m99.2.2.2.2.2)) x0 x2 x3  σ = some r) : lm_rn sc d lm_m99.2.2.2.2.1 (lm_reg lm_m99.2.2.2.2.2) (347, [(0, .ref x0), (2, .int x2), (3, .int x3)], []) σ = some r := lm_rn_of h
/-- LatticeSuiteModel.attempt, from 121 on -/
noncomputable def lm_q99_121 (sc : lm_H) (A : Nat → List Value → lm_M lm_R) (B : lm_F → lm_M lm_R) (x0 : Nat) (x2 : Int32) (x3 : Int32) : lm_M lm_R :=
  lm_bind (lm_gI 4568 x0) fun v1 =>
  lm_if .ge x3 v1 (lm_bind (lm_gR 4554 x0) fun v2 =>
  lm_bind (lm_aaR sc v2 ((Int32.ofInt 30) + x2)) fun v3 =>
  lm_bind (lm_sel [(11, 93)] (some (.ref x0))) fun y4 =>
  lm_bind (lm_asV (A y4 [.ref x0, .ref v3])) fun _ =>
  B (259, [(0, .ref x0), (2, .int x2), (3, .int (Int32.ofInt 0))], [])) (B (132, [(0, .ref x0), (2, .int x2), (3, .int x3), (4, .int (Int32.ofInt 0))], []))
set_option maxRecDepth 100000 in
theorem lm_e99_121 {sc : lm_H} {d : Nat} {x0 : Nat} {x2 : Int32} {x3 : Int32} {σ : lm_S} {r : Except Nat lm_R × lm_S} (h : lm_q99_121 sc (lm_cal sc d) (lm_rn sc d lm_m99.2.2.2.2.1 (lm_reg lm_m99.2.2.2.2.2)) x0 x2 x3  σ = some r) : lm_rn sc d lm_m99.2.2.2.2.1 (lm_reg lm_m99.2.2.2.2.2) (121, [(0, .ref x0), (2, .int x2), (3, .int x3)], []) σ = some r := lm_rn_of h
/-- LatticeSuiteModel.attempt, from 479 on -/
noncomputable def lm_q99_479 (sc : lm_H) (A : Nat → List Value → lm_M lm_R) (B : lm_F → lm_M lm_R) (x0 : Nat) (x2 : Int32) (x3 : Int32) (x4 : Int32) (x5 : Int32) : lm_M lm_R :=
  lm_bind (lm_gI 4528 x0) fun v1 =>
  lm_if .ge x5 v1 (lm_if .ne x4 0 (lm_ret (some (.int (Int32.ofInt 0)))) (lm_bind (lm_gI 4588 x0) fun v2 =>
  lm_if .le x3 v2 (lm_bind (lm_gR 4614 x0) fun v3 =>
  lm_bind (lm_gR 4566 x0) fun v4 =>
  lm_bind (lm_gI 4592 x0) fun v5 =>
  lm_bind (lm_asV (A 75 [.ref v3, .int (Int32.ofInt 0), .ref v4, .int (Int32.ofInt 0), .int v5])) fun _ =>
  lm_bind (lm_putf 4496 x0 (.int (Int32.ofInt 0))) fun _ =>
  B (828, [(0, .ref x0), (5, .int (Int32.ofInt 0))], [])) (lm_ret (some (.int (Int32.ofInt 0)))))) (lm_bind (lm_gR 4554 x0) fun v6 =>
  lm_bind (lm_aaR sc v6 (Int32.ofInt 47)) fun v7 =>
  lm_bind (lm_gR 4554 x0) fun v8 =>
  lm_bind (lm_aaR sc v8 (Int32.ofInt 46)) fun v9 =>
  lm_bind (lm_gR 4554 x0) fun v10 =>
  lm_bind (lm_gI 4568 x0) fun v11 =>
  lm_bind (lm_aaR sc v10 (v11 + x5)) fun v12 =>
  lm_bind (lm_sel [(11, 172)] (some (.ref x0))) fun y13 =>
  lm_bind (lm_asV (A y13 [.ref x0, .ref v7, .ref v9, .ref v12])) fun _ =>
  B (521, [(0, .ref x0), (2, .int x2), (3, .int x3), (4, .int x4), (5, .int x5), (6, .int (Int32.ofInt 0))], []))
set_option maxRecDepth 100000 in
theorem lm_e99_479 {sc : lm_H} {d : Nat} {x0 : Nat} {x2 : Int32} {x3 : Int32} {x4 : Int32} {x5 : Int32} {σ : lm_S} {r : Except Nat lm_R × lm_S} (h : lm_q99_479 sc (lm_cal sc d) (lm_rn sc d lm_m99.2.2.2.2.1 (lm_reg lm_m99.2.2.2.2.2)) x0 x2 x3 x4 x5  σ = some r) : lm_rn sc d lm_m99.2.2.2.2.1 (lm_reg lm_m99.2.2.2.2.2) (479, [(0, .ref x0), (2, .int x2), (3, .int x3), (4, .int x4), (5, .int x5)], []) σ = some r := lm_rn_of h
/-- LatticeSuiteModel.attempt, from 382 on -/
noncomputable def lm_q99_382 (sc : lm_H) (A : Nat → List Value → lm_M lm_R) (B : lm_F → lm_M lm_R) (x0 : Nat) (x2 : Int32) (x3 : Int32) (x4 : Int32) : lm_M lm_R :=
  lm_if .ge x4 (Int32.ofInt 256) (B (347, [(0, .ref x0), (2, .int x2), (3, .int (x3 + Int32.ofInt 1))], [])) (lm_bind (lm_gR 4554 x0) fun v1 =>
  lm_bind (lm_aaR sc v1 ((Int32.ofInt 23) + x3)) fun v2 =>
  lm_bind (lm_iald sc v2 x4) fun v3 =>
  lm_bind (lm_gR 4554 x0) fun v4 =>
  lm_bind (lm_aaR sc v4 (Int32.ofInt 47)) fun v5 =>
  lm_bind (lm_iald sc v5 x4) fun v6 =>
  lm_bind (lm_iast v2 x4 (v3 + v6)) fun _ =>
  lm_bind (lm_gR 4554 x0) fun v7 =>
  lm_bind (lm_aaR sc v7 ((Int32.ofInt 23) + x3)) fun v8 =>
  lm_bind (lm_iald sc v8 x4) fun v9 =>
  lm_bind (lm_gI 4580 x0) fun v10 =>
  lm_if .ge v9 (v10 - x2) (lm_ret (some (.int (Int32.ofInt 0)))) (lm_bind (lm_gR 4554 x0) fun v11 =>
  lm_bind (lm_aaR sc v11 ((Int32.ofInt 23) + x3)) fun v12 =>
  lm_bind (lm_iald sc v12 x4) fun v13 =>
  lm_bind (lm_gI 4580 x0) fun v14 =>
  lm_if .gt v13 (x2 - v14) (B (382, [(0, .ref x0), (2, .int x2), (3, .int x3), (4, .int (x4 + Int32.ofInt 1))], [])) (lm_ret (some (.int (Int32.ofInt 0))))))
set_option maxRecDepth 100000 in
theorem lm_e99_382 {sc : lm_H} {d : Nat} {x0 : Nat} {x2 : Int32} {x3 : Int32} {x4 : Int32} {σ : lm_S} {r : Except Nat lm_R × lm_S} (h : lm_q99_382 sc (lm_cal sc d) (lm_rn sc d lm_m99.2.2.2.2.1 (lm_reg lm_m99.2.2.2.2.2)) x0 x2 x3 x4  σ = some r) : lm_rn sc d lm_m99.2.2.2.2.1 (lm_reg lm_m99.2.2.2.2.2) (382, [(0, .ref x0), (2, .int x2), (3, .int x3), (4, .int x4)], []) σ = some r := lm_rn_of h
/-- LatticeSuiteModel.attempt, from 259 on -/
noncomputable def lm_q99_259 (sc : lm_H) (A : Nat → List Value → lm_M lm_R) (B : lm_F → lm_M lm_R) (x0 : Nat) (x2 : Int32) (x3 : Int32) : lm_M lm_R :=
  lm_if .ge x3 (Int32.ofInt 256) (B (99, [(0, .ref x0), (2, .int (x2 + Int32.ofInt 1))], [])) (lm_bind (lm_gR 4554 x0) fun v1 =>
  lm_bind (lm_aaR sc v1 ((Int32.ofInt 38) + x2)) fun v2 =>
  lm_bind (lm_gR 4554 x0) fun v3 =>
  lm_bind (lm_aaR sc v3 ((Int32.ofInt 30) + x2)) fun v4 =>
  lm_bind (lm_iald sc v4 x3) fun v5 =>
  lm_bind (lm_sel [(11, 103)] (some (.ref x0))) fun y6 =>
  lm_bind (lm_asI (A y6 [.ref x0, .int v5])) fun v7 =>
  lm_bind (lm_iast v2 x3 v7) fun _ =>
  B (259, [(0, .ref x0), (2, .int x2), (3, .int (x3 + Int32.ofInt 1))], []))
set_option maxRecDepth 100000 in
theorem lm_e99_259 {sc : lm_H} {d : Nat} {x0 : Nat} {x2 : Int32} {x3 : Int32} {σ : lm_S} {r : Except Nat lm_R × lm_S} (h : lm_q99_259 sc (lm_cal sc d) (lm_rn sc d lm_m99.2.2.2.2.1 (lm_reg lm_m99.2.2.2.2.2)) x0 x2 x3  σ = some r) : lm_rn sc d lm_m99.2.2.2.2.1 (lm_reg lm_m99.2.2.2.2.2) (259, [(0, .ref x0), (2, .int x2), (3, .int x3)], []) σ = some r := lm_rn_of h
/-- LatticeSuiteModel.attempt, from 132 on -/
noncomputable def lm_q99_132 (sc : lm_H) (A : Nat → List Value → lm_M lm_R) (B : lm_F → lm_M lm_R) (x0 : Nat) (x2 : Int32) (x3 : Int32) (x4 : Int32) : lm_M lm_R :=
  lm_if .ge x4 (Int32.ofInt 256) (lm_bind (lm_gR 4554 x0) fun v1 =>
  lm_bind (lm_aaR sc v1 (Int32.ofInt 46)) fun v2 =>
  lm_bind (lm_sel [(11, 90)] (some (.ref x0))) fun y3 =>
  lm_bind (lm_asV (A y3 [.ref x0, .ref v2])) fun _ =>
  lm_bind (lm_gR 4554 x0) fun v4 =>
  lm_bind (lm_aaR sc v4 (Int32.ofInt 47)) fun v5 =>
  lm_bind (lm_gR 4406 x0) fun v6 =>
  lm_bind (lm_aaR sc v6 (Int32.ofInt 2)) fun v7 =>
  lm_bind (lm_sel [(11, 91)] (some (.ref x0))) fun y8 =>
  lm_bind (lm_asI (A y8 [.ref x0, .ref v5, .ref v7, .int (Int32.ofInt 0), .int x3, .int x2])) fun v9 =>
  lm_if .ne v9 0 (lm_bind (lm_gR 4554 x0) fun v10 =>
  lm_bind (lm_aaR sc v10 ((Int32.ofInt 30) + x2)) fun v11 =>
  lm_bind (lm_gR 4554 x0) fun v12 =>
  lm_bind (lm_aaR sc v12 (Int32.ofInt 46)) fun v13 =>
  lm_bind (lm_gR 4554 x0) fun v14 =>
  lm_bind (lm_aaR sc v14 (Int32.ofInt 47)) fun v15 =>
  lm_bind (lm_asV (A 92 [.ref v11, .ref v13, .ref v15])) fun _ =>
  B (121, [(0, .ref x0), (2, .int x2), (3, .int (x3 + Int32.ofInt 1))], [])) (lm_ret (some (.int (Int32.ofInt (-1)))))) (lm_bind (lm_gR 4554 x0) fun v16 =>
  lm_bind (lm_aaR sc v16 (Int32.ofInt 46)) fun v17 =>
  lm_bind (lm_gR 4554 x0) fun v18 =>
  lm_bind (lm_aaR sc v18 ((Int32.ofInt 23) + x3)) fun v19 =>
  lm_bind (lm_iald sc v19 x4) fun v20 =>
  lm_when (¬ (Int32.ofInt 8380417) = 0) inferInstance (lm_bind (lm_iast v17 x4 (lm_rem (v20 + (Int32.ofInt 8380417)) (Int32.ofInt 8380417))) fun _ =>
  B (132, [(0, .ref x0), (2, .int x2), (3, .int x3), (4, .int (x4 + Int32.ofInt 1))], [])))
set_option maxRecDepth 100000 in
theorem lm_e99_132 {sc : lm_H} {d : Nat} {x0 : Nat} {x2 : Int32} {x3 : Int32} {x4 : Int32} {σ : lm_S} {r : Except Nat lm_R × lm_S} (h : lm_q99_132 sc (lm_cal sc d) (lm_rn sc d lm_m99.2.2.2.2.1 (lm_reg lm_m99.2.2.2.2.2)) x0 x2 x3 x4  σ = some r) : lm_rn sc d lm_m99.2.2.2.2.1 (lm_reg lm_m99.2.2.2.2.2) (132, [(0, .ref x0), (2, .int x2), (3, .int x3), (4, .int x4)], []) σ = some r := lm_rn_of h
/-- LatticeSuiteModel.attempt, from 828 on -/
noncomputable def lm_q99_828 (sc : lm_H) (A : Nat → List Value → lm_M lm_R) (B : lm_F → lm_M lm_R) (x0 : Nat) (x5 : Int32) : lm_M lm_R :=
  lm_bind (lm_gI 4568 x0) fun v1 =>
  lm_if .ge x5 v1 (lm_bind (lm_gI 4592 x0) fun v2 =>
  lm_bind (lm_gI 4568 x0) fun v3 =>
  lm_bind (lm_gI 4596 x0) fun v4 =>
  B (898, [(0, .ref x0), (5, .int (v2 + (((Int32.ofInt 32) * v3) * v4))), (6, .int (Int32.ofInt 0)), (7, .int (Int32.ofInt 0))], [])) (lm_bind (lm_gR 4566 x0) fun v5 =>
  lm_bind (lm_gI 4592 x0) fun v6 =>
  lm_bind (lm_gR 4554 x0) fun v7 =>
  lm_bind (lm_aaR sc v7 ((Int32.ofInt 23) + x5)) fun v8 =>
  lm_bind (lm_gI 4580 x0) fun v9 =>
  lm_bind (lm_gI 4596 x0) fun v10 =>
  lm_bind (lm_sel [(11, 88)] (some (.ref x0))) fun y11 =>
  lm_bind (lm_asV (A y11 [.ref x0, .ref v5, .int v6, .ref v8, .int v9, .int v10])) fun _ =>
  B (828, [(0, .ref x0), (5, .int (x5 + Int32.ofInt 1))], []))
set_option maxRecDepth 100000 in
theorem lm_e99_828 {sc : lm_H} {d : Nat} {x0 : Nat} {x5 : Int32} {σ : lm_S} {r : Except Nat lm_R × lm_S} (h : lm_q99_828 sc (lm_cal sc d) (lm_rn sc d lm_m99.2.2.2.2.1 (lm_reg lm_m99.2.2.2.2.2)) x0 x5  σ = some r) : lm_rn sc d lm_m99.2.2.2.2.1 (lm_reg lm_m99.2.2.2.2.2) (828, [(0, .ref x0), (5, .int x5)], []) σ = some r := lm_rn_of h
/-- LatticeSuiteModel.attempt, from 521 on -/
noncomputable def lm_q99_521 (sc : lm_H) (A : Nat → List Value → lm_M lm_R) (B : lm_F → lm_M lm_R) (x0 : Nat) (x2 : Int32) (x3 : Int32) (x4 : Int32) (x5 : Int32) (x6 : Int32) : lm_M lm_R :=
  lm_if .ge x6 (Int32.ofInt 256) (lm_bind (lm_gR 4554 x0) fun v1 =>
  lm_bind (lm_aaR sc v1 (Int32.ofInt 47)) fun v2 =>
  lm_bind (lm_gR 4554 x0) fun v3 =>
  lm_bind (lm_aaR sc v3 (Int32.ofInt 46)) fun v4 =>
  lm_bind (lm_gR 4554 x0) fun v5 =>
  lm_bind (lm_aaR sc v5 ((Int32.ofInt 15) + x5)) fun v6 =>
  lm_bind (lm_sel [(11, 172)] (some (.ref x0))) fun y7 =>
  lm_bind (lm_asV (A y7 [.ref x0, .ref v2, .ref v4, .ref v6])) fun _ =>
  B (655, [(0, .ref x0), (2, .int x2), (3, .int x3), (4, .int x4), (5, .int x5), (6, .int (Int32.ofInt 0))], [])) (lm_bind (lm_gR 4554 x0) fun v8 =>
  lm_bind (lm_aaR sc v8 ((Int32.ofInt 30) + x5)) fun v9 =>
  lm_bind (lm_gR 4554 x0) fun v10 =>
  lm_bind (lm_aaR sc v10 ((Int32.ofInt 30) + x5)) fun v11 =>
  lm_bind (lm_iald sc v11 x6) fun v12 =>
  lm_bind (lm_gR 4554 x0) fun v13 =>
  lm_bind (lm_aaR sc v13 (Int32.ofInt 47)) fun v14 =>
  lm_bind (lm_iald sc v14 x6) fun v15 =>
  lm_when (¬ (Int32.ofInt 8380417) = 0) inferInstance (lm_bind (lm_iast v9 x6 (lm_rem ((v12 - v15) + (Int32.ofInt 8380417)) (Int32.ofInt 8380417))) fun _ =>
  lm_bind (lm_gR 4554 x0) fun v16 =>
  lm_bind (lm_aaR sc v16 ((Int32.ofInt 30) + x5)) fun v17 =>
  lm_bind (lm_iald sc v17 x6) fun v18 =>
  lm_bind (lm_sel [(11, 104)] (some (.ref x0))) fun y19 =>
  lm_bind (lm_asI (A y19 [.ref x0, .int v18])) fun v20 =>
  lm_bind (lm_gI 4584 x0) fun v21 =>
  lm_if .ge v20 (v21 - x2) (B (615, [(0, .ref x0), (2, .int x2), (3, .int x3), (5, .int x5), (6, .int x6)], [])) (lm_bind (lm_gI 4584 x0) fun v22 =>
  lm_if .gt v20 (x2 - v22) (B (618, [(0, .ref x0), (2, .int x2), (3, .int x3), (4, .int x4), (5, .int x5), (6, .int x6)], [])) (B (615, [(0, .ref x0), (2, .int x2), (3, .int x3), (5, .int x5), (6, .int x6)], [])))))
set_option maxRecDepth 100000 in
theorem lm_e99_521 {sc : lm_H} {d : Nat} {x0 : Nat} {x2 : Int32} {x3 : Int32} {x4 : Int32} {x5 : Int32} {x6 : Int32} {σ : lm_S} {r : Except Nat lm_R × lm_S} (h : lm_q99_521 sc (lm_cal sc d) (lm_rn sc d lm_m99.2.2.2.2.1 (lm_reg lm_m99.2.2.2.2.2)) x0 x2 x3 x4 x5 x6  σ = some r) : lm_rn sc d lm_m99.2.2.2.2.1 (lm_reg lm_m99.2.2.2.2.2) (521, [(0, .ref x0), (2, .int x2), (3, .int x3), (4, .int x4), (5, .int x5), (6, .int x6)], []) σ = some r := lm_rn_of h
/-- LatticeSuiteModel.attempt, from 898 on -/
noncomputable def lm_q99_898 (sc : lm_H) (A : Nat → List Value → lm_M lm_R) (B : lm_F → lm_M lm_R) (x0 : Nat) (x5 : Int32) (x6 : Int32) (x7 : Int32) : lm_M lm_R :=
  lm_bind (lm_gI 4588 x0) fun v1 =>
  lm_if .ge x7 v1 (B (927, [(0, .ref x0), (5, .int x5), (6, .int x6), (7, .int (Int32.ofInt 0))], [])) (lm_bind (lm_gR 4566 x0) fun v2 =>
  lm_bind (lm_bast v2 (x5 + x7) (Int32.ofInt 0)) fun _ =>
  B (898, [(0, .ref x0), (5, .int x5), (6, .int x6), (7, .int (x7 + Int32.ofInt 1))], []))
set_option maxRecDepth 100000 in
theorem lm_e99_898 {sc : lm_H} {d : Nat} {x0 : Nat} {x5 : Int32} {x6 : Int32} {x7 : Int32} {σ : lm_S} {r : Except Nat lm_R × lm_S} (h : lm_q99_898 sc (lm_cal sc d) (lm_rn sc d lm_m99.2.2.2.2.1 (lm_reg lm_m99.2.2.2.2.2)) x0 x5 x6 x7  σ = some r) : lm_rn sc d lm_m99.2.2.2.2.1 (lm_reg lm_m99.2.2.2.2.2) (898, [(0, .ref x0), (5, .int x5), (6, .int x6), (7, .int x7)], []) σ = some r := lm_rn_of h
/-- LatticeSuiteModel.attempt, from 655 on -/
noncomputable def lm_q99_655 (sc : lm_H) (A : Nat → List Value → lm_M lm_R) (B : lm_F → lm_M lm_R) (x0 : Nat) (x2 : Int32) (x3 : Int32) (x4 : Int32) (x5 : Int32) (x6 : Int32) : lm_M lm_R :=
  lm_if .ge x6 (Int32.ofInt 256) (B (479, [(0, .ref x0), (2, .int x2), (3, .int x3), (4, .int x4), (5, .int (x5 + Int32.ofInt 1))], [])) (lm_bind (lm_gR 4554 x0) fun v1 =>
  lm_bind (lm_aaR sc v1 (Int32.ofInt 47)) fun v2 =>
  lm_bind (lm_iald sc v2 x6) fun v3 =>
  lm_bind (lm_gI 4584 x0) fun v4 =>
  lm_if .ge v3 v4 (B (694, [(0, .ref x0), (2, .int x2), (3, .int x3), (5, .int x5), (6, .int x6), (7, .int v3)], [])) (lm_bind (lm_gI 4584 x0) fun v5 =>
  lm_if .gt v3 (-v5) (B (697, [(0, .ref x0), (2, .int x2), (3, .int x3), (4, .int x4), (5, .int x5), (6, .int x6), (7, .int v3)], [])) (B (694, [(0, .ref x0), (2, .int x2), (3, .int x3), (5, .int x5), (6, .int x6), (7, .int v3)], []))))
set_option maxRecDepth 100000 in
theorem lm_e99_655 {sc : lm_H} {d : Nat} {x0 : Nat} {x2 : Int32} {x3 : Int32} {x4 : Int32} {x5 : Int32} {x6 : Int32} {σ : lm_S} {r : Except Nat lm_R × lm_S} (h : lm_q99_655 sc (lm_cal sc d) (lm_rn sc d lm_m99.2.2.2.2.1 (lm_reg lm_m99.2.2.2.2.2)) x0 x2 x3 x4 x5 x6  σ = some r) : lm_rn sc d lm_m99.2.2.2.2.1 (lm_reg lm_m99.2.2.2.2.2) (655, [(0, .ref x0), (2, .int x2), (3, .int x3), (4, .int x4), (5, .int x5), (6, .int x6)], []) σ = some r := lm_rn_of h
/-- LatticeSuiteModel.attempt, from 615 on -/
noncomputable def lm_q99_615 (sc : lm_H) (A : Nat → List Value → lm_M lm_R) (B : lm_F → lm_M lm_R) (x0 : Nat) (x2 : Int32) (x3 : Int32) (x5 : Int32) (x6 : Int32) : lm_M lm_R :=
  B (618, [(0, .ref x0), (2, .int x2), (3, .int x3), (4, .int (Int32.ofInt 1)), (5, .int x5), (6, .int x6)], [])
set_option maxRecDepth 100000 in
theorem lm_e99_615 {sc : lm_H} {d : Nat} {x0 : Nat} {x2 : Int32} {x3 : Int32} {x5 : Int32} {x6 : Int32} {σ : lm_S} {r : Except Nat lm_R × lm_S} (h : lm_q99_615 sc (lm_cal sc d) (lm_rn sc d lm_m99.2.2.2.2.1 (lm_reg lm_m99.2.2.2.2.2)) x0 x2 x3 x5 x6  σ = some r) : lm_rn sc d lm_m99.2.2.2.2.1 (lm_reg lm_m99.2.2.2.2.2) (615, [(0, .ref x0), (2, .int x2), (3, .int x3), (5, .int x5), (6, .int x6)], []) σ = some r := lm_rn_of h
/-- LatticeSuiteModel.attempt, from 618 on -/
noncomputable def lm_q99_618 (sc : lm_H) (A : Nat → List Value → lm_M lm_R) (B : lm_F → lm_M lm_R) (x0 : Nat) (x2 : Int32) (x3 : Int32) (x4 : Int32) (x5 : Int32) (x6 : Int32) : lm_M lm_R :=
  B (521, [(0, .ref x0), (2, .int x2), (3, .int x3), (4, .int x4), (5, .int x5), (6, .int (x6 + Int32.ofInt 1))], [])
set_option maxRecDepth 100000 in
theorem lm_e99_618 {sc : lm_H} {d : Nat} {x0 : Nat} {x2 : Int32} {x3 : Int32} {x4 : Int32} {x5 : Int32} {x6 : Int32} {σ : lm_S} {r : Except Nat lm_R × lm_S} (h : lm_q99_618 sc (lm_cal sc d) (lm_rn sc d lm_m99.2.2.2.2.1 (lm_reg lm_m99.2.2.2.2.2)) x0 x2 x3 x4 x5 x6  σ = some r) : lm_rn sc d lm_m99.2.2.2.2.1 (lm_reg lm_m99.2.2.2.2.2) (618, [(0, .ref x0), (2, .int x2), (3, .int x3), (4, .int x4), (5, .int x5), (6, .int x6)], []) σ = some r := lm_rn_of h
/-- LatticeSuiteModel.attempt, from 927 on -/
noncomputable def lm_q99_927 (sc : lm_H) (A : Nat → List Value → lm_M lm_R) (B : lm_F → lm_M lm_R) (x0 : Nat) (x5 : Int32) (x6 : Int32) (x7 : Int32) : lm_M lm_R :=
  lm_bind (lm_gI 4528 x0) fun v1 =>
  lm_if .ge x7 v1 (lm_ret (some (.int (Int32.ofInt 1)))) (B (939, [(0, .ref x0), (5, .int x5), (6, .int x6), (7, .int x7), (8, .int (Int32.ofInt 0))], []))
set_option maxRecDepth 100000 in
theorem lm_e99_927 {sc : lm_H} {d : Nat} {x0 : Nat} {x5 : Int32} {x6 : Int32} {x7 : Int32} {σ : lm_S} {r : Except Nat lm_R × lm_S} (h : lm_q99_927 sc (lm_cal sc d) (lm_rn sc d lm_m99.2.2.2.2.1 (lm_reg lm_m99.2.2.2.2.2)) x0 x5 x6 x7  σ = some r) : lm_rn sc d lm_m99.2.2.2.2.1 (lm_reg lm_m99.2.2.2.2.2) (927, [(0, .ref x0), (5, .int x5), (6, .int x6), (7, .int x7)], []) σ = some r := lm_rn_of h
/-- LatticeSuiteModel.attempt, from 694 on -/
noncomputable def lm_q99_694 (sc : lm_H) (A : Nat → List Value → lm_M lm_R) (B : lm_F → lm_M lm_R) (x0 : Nat) (x2 : Int32) (x3 : Int32) (x5 : Int32) (x6 : Int32) (x7 : Int32) : lm_M lm_R :=
  B (697, [(0, .ref x0), (2, .int x2), (3, .int x3), (4, .int (Int32.ofInt 1)), (5, .int x5), (6, .int x6), (7, .int x7)], [])
set_option maxRecDepth 100000 in
theorem lm_e99_694 {sc : lm_H} {d : Nat} {x0 : Nat} {x2 : Int32} {x3 : Int32} {x5 : Int32} {x6 : Int32} {x7 : Int32} {σ : lm_S} {r : Except Nat lm_R × lm_S} (h : lm_q99_694 sc (lm_cal sc d) (lm_rn sc d lm_m99.2.2.2.2.1 (lm_reg lm_m99.2.2.2.2.2)) x0 x2 x3 x5 x6 x7  σ = some r) : lm_rn sc d lm_m99.2.2.2.2.1 (lm_reg lm_m99.2.2.2.2.2) (694, [(0, .ref x0), (2, .int x2), (3, .int x3), (5, .int x5), (6, .int x6), (7, .int x7)], []) σ = some r := lm_rn_of h
/-- LatticeSuiteModel.attempt, from 697 on -/
noncomputable def lm_q99_697 (sc : lm_H) (A : Nat → List Value → lm_M lm_R) (B : lm_F → lm_M lm_R) (x0 : Nat) (x2 : Int32) (x3 : Int32) (x4 : Int32) (x5 : Int32) (x6 : Int32) (x7 : Int32) : lm_M lm_R :=
  lm_bind (lm_gR 4558 x0) fun v1 =>
  lm_bind (lm_aaR sc v1 x5) fun v2 =>
  lm_bind (lm_gR 4554 x0) fun v3 =>
  lm_bind (lm_aaR sc v3 ((Int32.ofInt 30) + x5)) fun v4 =>
  lm_bind (lm_iald sc v4 x6) fun v5 =>
  lm_when (¬ (Int32.ofInt 8380417) = 0) inferInstance (lm_bind (lm_sel [(11, 103)] (some (.ref x0))) fun y6 =>
  lm_bind (lm_asI (A y6 [.ref x0, .int (lm_rem ((v5 + x7) + (Int32.ofInt 8380417)) (Int32.ofInt 8380417))])) fun v7 =>
  lm_bind (lm_gR 4554 x0) fun v8 =>
  lm_bind (lm_aaR sc v8 ((Int32.ofInt 30) + x5)) fun v9 =>
  lm_bind (lm_iald sc v9 x6) fun v10 =>
  lm_bind (lm_sel [(11, 103)] (some (.ref x0))) fun y11 =>
  lm_bind (lm_asI (A y11 [.ref x0, .int v10])) fun v12 =>
  lm_if .eq v7 v12 (B (759, [(0, .ref x0), (2, .int x2), (3, .int x3), (4, .int x4), (5, .int x5), (6, .int x6)], [.int (Int32.ofInt 0), .int x6, .ref v2])) (B (759, [(0, .ref x0), (2, .int x2), (3, .int x3), (4, .int x4), (5, .int x5), (6, .int x6)], [.int (Int32.ofInt 1), .int x6, .ref v2])))
set_option maxRecDepth 100000 in
theorem lm_e99_697 {sc : lm_H} {d : Nat} {x0 : Nat} {x2 : Int32} {x3 : Int32} {x4 : Int32} {x5 : Int32} {x6 : Int32} {x7 : Int32} {σ : lm_S} {r : Except Nat lm_R × lm_S} (h : lm_q99_697 sc (lm_cal sc d) (lm_rn sc d lm_m99.2.2.2.2.1 (lm_reg lm_m99.2.2.2.2.2)) x0 x2 x3 x4 x5 x6 x7  σ = some r) : lm_rn sc d lm_m99.2.2.2.2.1 (lm_reg lm_m99.2.2.2.2.2) (697, [(0, .ref x0), (2, .int x2), (3, .int x3), (4, .int x4), (5, .int x5), (6, .int x6), (7, .int x7)], []) σ = some r := lm_rn_of h
/-- LatticeSuiteModel.attempt, from 939 on -/
noncomputable def lm_q99_939 (sc : lm_H) (A : Nat → List Value → lm_M lm_R) (B : lm_F → lm_M lm_R) (x0 : Nat) (x5 : Int32) (x6 : Int32) (x7 : Int32) (x8 : Int32) : lm_M lm_R :=
  lm_if .ge x8 (Int32.ofInt 256) (lm_bind (lm_gR 4566 x0) fun v1 =>
  lm_bind (lm_gI 4588 x0) fun v2 =>
  lm_bind (lm_bast v1 ((x5 + v2) + x7) (lm_b8 x6)) fun _ =>
  B (927, [(0, .ref x0), (5, .int x5), (6, .int x6), (7, .int (x7 + Int32.ofInt 1))], [])) (lm_bind (lm_gR 4558 x0) fun v3 =>
  lm_bind (lm_aaR sc v3 x7) fun v4 =>
  lm_bind (lm_bald sc v4 x8) fun v5 =>
  lm_if .eq v5 0 (B (976, [(0, .ref x0), (5, .int x5), (6, .int x6), (7, .int x7), (8, .int x8)], [])) (lm_bind (lm_gR 4566 x0) fun v6 =>
  lm_bind (lm_bast v6 (x5 + x6) (lm_b8 x8)) fun _ =>
  B (976, [(0, .ref x0), (5, .int x5), (6, .int (x6 + Int32.ofInt 1)), (7, .int x7), (8, .int x8)], [])))
set_option maxRecDepth 100000 in
theorem lm_e99_939 {sc : lm_H} {d : Nat} {x0 : Nat} {x5 : Int32} {x6 : Int32} {x7 : Int32} {x8 : Int32} {σ : lm_S} {r : Except Nat lm_R × lm_S} (h : lm_q99_939 sc (lm_cal sc d) (lm_rn sc d lm_m99.2.2.2.2.1 (lm_reg lm_m99.2.2.2.2.2)) x0 x5 x6 x7 x8  σ = some r) : lm_rn sc d lm_m99.2.2.2.2.1 (lm_reg lm_m99.2.2.2.2.2) (939, [(0, .ref x0), (5, .int x5), (6, .int x6), (7, .int x7), (8, .int x8)], []) σ = some r := lm_rn_of h
/-- LatticeSuiteModel.attempt, from 759 on -/
noncomputable def lm_q99_759 (sc : lm_H) (A : Nat → List Value → lm_M lm_R) (B : lm_F → lm_M lm_R) (x0 : Nat) (x2 : Int32) (x3 : Int32) (x4 : Int32) (x5 : Int32) (x6 : Int32) (s0 : Int32) (s1 : Int32) (s2 : Nat) : lm_M lm_R :=
  lm_bind (lm_bast s2 s1 s0) fun _ =>
  lm_bind (lm_gR 4558 x0) fun v1 =>
  lm_bind (lm_aaR sc v1 x5) fun v2 =>
  lm_bind (lm_bald sc v2 x6) fun v3 =>
  lm_if .eq v3 0 (B (776, [(0, .ref x0), (2, .int x2), (3, .int x3), (4, .int x4), (5, .int x5), (6, .int x6)], [])) (B (776, [(0, .ref x0), (2, .int x2), (3, .int (x3 + Int32.ofInt 1)), (4, .int x4), (5, .int x5), (6, .int x6)], []))
set_option maxRecDepth 100000 in
theorem lm_e99_759 {sc : lm_H} {d : Nat} {x0 : Nat} {x2 : Int32} {x3 : Int32} {x4 : Int32} {x5 : Int32} {x6 : Int32} {s0 : Int32} {s1 : Int32} {s2 : Nat} {σ : lm_S} {r : Except Nat lm_R × lm_S} (h : lm_q99_759 sc (lm_cal sc d) (lm_rn sc d lm_m99.2.2.2.2.1 (lm_reg lm_m99.2.2.2.2.2)) x0 x2 x3 x4 x5 x6 s0 s1 s2 σ = some r) : lm_rn sc d lm_m99.2.2.2.2.1 (lm_reg lm_m99.2.2.2.2.2) (759, [(0, .ref x0), (2, .int x2), (3, .int x3), (4, .int x4), (5, .int x5), (6, .int x6)], [.int s0, .int s1, .ref s2]) σ = some r := lm_rn_of h
/-- LatticeSuiteModel.attempt, from 976 on -/
noncomputable def lm_q99_976 (sc : lm_H) (A : Nat → List Value → lm_M lm_R) (B : lm_F → lm_M lm_R) (x0 : Nat) (x5 : Int32) (x6 : Int32) (x7 : Int32) (x8 : Int32) : lm_M lm_R :=
  B (939, [(0, .ref x0), (5, .int x5), (6, .int x6), (7, .int x7), (8, .int (x8 + Int32.ofInt 1))], [])
set_option maxRecDepth 100000 in
theorem lm_e99_976 {sc : lm_H} {d : Nat} {x0 : Nat} {x5 : Int32} {x6 : Int32} {x7 : Int32} {x8 : Int32} {σ : lm_S} {r : Except Nat lm_R × lm_S} (h : lm_q99_976 sc (lm_cal sc d) (lm_rn sc d lm_m99.2.2.2.2.1 (lm_reg lm_m99.2.2.2.2.2)) x0 x5 x6 x7 x8  σ = some r) : lm_rn sc d lm_m99.2.2.2.2.1 (lm_reg lm_m99.2.2.2.2.2) (976, [(0, .ref x0), (5, .int x5), (6, .int x6), (7, .int x7), (8, .int x8)], []) σ = some r := lm_rn_of h
/-- LatticeSuiteModel.attempt, from 776 on -/
noncomputable def lm_q99_776 (sc : lm_H) (A : Nat → List Value → lm_M lm_R) (B : lm_F → lm_M lm_R) (x0 : Nat) (x2 : Int32) (x3 : Int32) (x4 : Int32) (x5 : Int32) (x6 : Int32) : lm_M lm_R :=
  B (655, [(0, .ref x0), (2, .int x2), (3, .int x3), (4, .int x4), (5, .int x5), (6, .int (x6 + Int32.ofInt 1))], [])
set_option maxRecDepth 100000 in
theorem lm_e99_776 {sc : lm_H} {d : Nat} {x0 : Nat} {x2 : Int32} {x3 : Int32} {x4 : Int32} {x5 : Int32} {x6 : Int32} {σ : lm_S} {r : Except Nat lm_R × lm_S} (h : lm_q99_776 sc (lm_cal sc d) (lm_rn sc d lm_m99.2.2.2.2.1 (lm_reg lm_m99.2.2.2.2.2)) x0 x2 x3 x4 x5 x6  σ = some r) : lm_rn sc d lm_m99.2.2.2.2.1 (lm_reg lm_m99.2.2.2.2.2) (776, [(0, .ref x0), (2, .int x2), (3, .int x3), (4, .int x4), (5, .int x5), (6, .int x6)], []) σ = some r := lm_rn_of h
/-- LatticeSuite.dsaVerify, from 0 on -/
noncomputable def lm_q100_0 (sc : lm_H) (A : Nat → List Value → lm_M lm_R) (B : lm_F → lm_M lm_R) (x0 : Nat) (x1 : Int32) (x2 : Int32) : lm_M lm_R :=
  lm_bind (lm_asV (A 132 [.int x1, .int (Int32.ofInt 0), .int (Int32.ofInt 2)])) fun _ =>
  lm_bind (lm_asV (A 132 [.int x2, .int (Int32.ofInt (-1)), .int (Int32.ofInt 12)])) fun _ =>
  lm_bind (lm_gR 14 x0) fun v1 =>
  lm_bind (lm_sel [(4, 168)] (some (.ref v1))) fun y2 =>
  lm_bind (lm_asI (A y2 [.ref v1, .int x2])) fun v3 =>
  lm_bind (lm_asV (A 150 [.int v3])) fun _ =>
  lm_bind (lm_gR 22 x0) fun v4 =>
  lm_bind (lm_sel [(9, 165)] (some (.ref v4))) fun y5 =>
  lm_bind (lm_asV (A y5 [.ref v4, .int x1])) fun _ =>
  lm_bind (lm_gR 2 x0) fun v6 =>
  lm_bind (lm_aaR sc v6 (Int32.ofInt 1)) fun v7 =>
  lm_bind (lm_gI 404 v7) fun v8 =>
  lm_bind (lm_gR 22 x0) fun v9 =>
  lm_bind (lm_sel [(9, 173)] (some (.ref v9))) fun y10 =>
  lm_bind (lm_asI (A y10 [.ref v9])) fun v11 =>
  lm_if .ne v8 v11 (B (56, [(0, .ref x0), (2, .int x2)], [.int (Int32.ofInt 0)])) (B (56, [(0, .ref x0), (2, .int x2)], [.int (Int32.ofInt 1)]))
set_option maxRecDepth 100000 in
theorem lm_e100_0 {sc : lm_H} {d : Nat} {x0 : Nat} {x1 : Int32} {x2 : Int32} {σ : lm_S} {r : Except Nat lm_R × lm_S} (h : lm_q100_0 sc (lm_cal sc d) (lm_rn sc d lm_m100.2.2.2.2.1 (lm_reg lm_m100.2.2.2.2.2)) x0 x1 x2  σ = some r) : lm_rn sc d lm_m100.2.2.2.2.1 (lm_reg lm_m100.2.2.2.2.2) (0, [(0, .ref x0), (1, .int x1), (2, .int x2)], []) σ = some r := lm_rn_of h
/-- LatticeSuite.dsaVerify, from 56 on -/
noncomputable def lm_q100_56 (sc : lm_H) (A : Nat → List Value → lm_M lm_R) (B : lm_F → lm_M lm_R) (x0 : Nat) (x2 : Int32) (s0 : Int32) : lm_M lm_R :=
  lm_bind (lm_asV (A 160 [.int s0])) fun _ =>
  lm_bind (lm_gR 22 x0) fun v1 =>
  lm_bind (lm_gR 2 x0) fun v2 =>
  lm_bind (lm_aaR sc v2 (Int32.ofInt 5)) fun v3 =>
  lm_bind (lm_sel [(9, 174)] (some (.ref v1))) fun y4 =>
  lm_bind (lm_asI (A y4 [.ref v1, .ref v3])) fun v5 =>
  lm_if .ne v5 0 (lm_bind (lm_gR 14 x0) fun v6 =>
  lm_bind (lm_sel [(4, 170)] (some (.ref v6))) fun y7 =>
  lm_bind (lm_asV (A y7 [.ref v6, .int x2])) fun _ =>
  lm_bind (lm_gR 22 x0) fun v8 =>
  lm_bind (lm_gR 2 x0) fun v9 =>
  lm_bind (lm_aaR sc v9 (Int32.ofInt 1)) fun v10 =>
  lm_bind (lm_gR 402 v10) fun v11 =>
  lm_bind (lm_gR 14 x0) fun v12 =>
  lm_bind (lm_gR 2 x0) fun v13 =>
  lm_bind (lm_aaR sc v13 (Int32.ofInt 5)) fun v14 =>
  lm_bind (lm_gR 402 v14) fun v15 =>
  lm_bind (lm_gR 2 x0) fun v16 =>
  lm_bind (lm_aaR sc v16 (Int32.ofInt 6)) fun v17 =>
  lm_bind (lm_sel [(9, 175)] (some (.ref v8))) fun y18 =>
  lm_bind (lm_asI (A y18 [.ref v8, .ref v11, .ref v12, .ref v15, .ref v17])) fun v19 =>
  lm_when (v19 = 0 ∨ v19 = 1) inferInstance (lm_ret (some (.int v19)))) (lm_when ((Int32.ofInt 0) = 0 ∨ (Int32.ofInt 0) = 1) inferInstance (lm_ret (some (.int (Int32.ofInt 0)))))
set_option maxRecDepth 100000 in
theorem lm_e100_56 {sc : lm_H} {d : Nat} {x0 : Nat} {x2 : Int32} {s0 : Int32} {σ : lm_S} {r : Except Nat lm_R × lm_S} (h : lm_q100_56 sc (lm_cal sc d) (lm_rn sc d lm_m100.2.2.2.2.1 (lm_reg lm_m100.2.2.2.2.2)) x0 x2 s0 σ = some r) : lm_rn sc d lm_m100.2.2.2.2.1 (lm_reg lm_m100.2.2.2.2.2) (56, [(0, .ref x0), (2, .int x2)], [.int s0]) σ = some r := lm_rn_of h
/-- LatticeSuiteModel.hints, from 0 on -/
noncomputable def lm_q101_0 (sc : lm_H) (A : Nat → List Value → lm_M lm_R) (B : lm_F → lm_M lm_R) (x0 : Nat) (x1 : Nat) (x2 : Int32) : lm_M lm_R :=
  B (5, [(0, .ref x0), (1, .ref x1), (2, .int x2), (3, .int (Int32.ofInt 0)), (4, .int (Int32.ofInt 0))], [])
set_option maxRecDepth 100000 in
theorem lm_e101_0 {sc : lm_H} {d : Nat} {x0 : Nat} {x1 : Nat} {x2 : Int32} {σ : lm_S} {r : Except Nat lm_R × lm_S} (h : lm_q101_0 sc (lm_cal sc d) (lm_rn sc d lm_m101.2.2.2.2.1 (lm_reg lm_m101.2.2.2.2.2)) x0 x1 x2  σ = some r) : lm_rn sc d lm_m101.2.2.2.2.1 (lm_reg lm_m101.2.2.2.2.2) (0, [(0, .ref x0), (1, .ref x1), (2, .int x2)], []) σ = some r := lm_rn_of h
/-- LatticeSuiteModel.hints, from 5 on -/
noncomputable def lm_q101_5 (sc : lm_H) (A : Nat → List Value → lm_M lm_R) (B : lm_F → lm_M lm_R) (x0 : Nat) (x1 : Nat) (x2 : Int32) (x3 : Int32) (x4 : Int32) : lm_M lm_R :=
  lm_bind (lm_gI 4528 x0) fun v1 =>
  lm_if .ge x4 v1 (B (156, [(0, .ref x0), (1, .ref x1), (2, .int x2), (4, .int x3)], [])) (B (17, [(0, .ref x0), (1, .ref x1), (2, .int x2), (3, .int x3), (4, .int x4), (5, .int (Int32.ofInt 0))], []))
set_option maxRecDepth 100000 in
theorem lm_e101_5 {sc : lm_H} {d : Nat} {x0 : Nat} {x1 : Nat} {x2 : Int32} {x3 : Int32} {x4 : Int32} {σ : lm_S} {r : Except Nat lm_R × lm_S} (h : lm_q101_5 sc (lm_cal sc d) (lm_rn sc d lm_m101.2.2.2.2.1 (lm_reg lm_m101.2.2.2.2.2)) x0 x1 x2 x3 x4  σ = some r) : lm_rn sc d lm_m101.2.2.2.2.1 (lm_reg lm_m101.2.2.2.2.2) (5, [(0, .ref x0), (1, .ref x1), (2, .int x2), (3, .int x3), (4, .int x4)], []) σ = some r := lm_rn_of h
/-- LatticeSuiteModel.hints, from 156 on -/
noncomputable def lm_q101_156 (sc : lm_H) (A : Nat → List Value → lm_M lm_R) (B : lm_F → lm_M lm_R) (x0 : Nat) (x1 : Nat) (x2 : Int32) (x4 : Int32) : lm_M lm_R :=
  lm_bind (lm_gI 4588 x0) fun v1 =>
  lm_if .ge x4 v1 (lm_when ((Int32.ofInt 1) = 0 ∨ (Int32.ofInt 1) = 1) inferInstance (lm_ret (some (.int (Int32.ofInt 1))))) (lm_bind (lm_bald sc x1 (x2 + x4)) fun v2 =>
  lm_if .eq v2 0 (B (156, [(0, .ref x0), (1, .ref x1), (2, .int x2), (4, .int (x4 + Int32.ofInt 1))], [])) (lm_when ((Int32.ofInt 0) = 0 ∨ (Int32.ofInt 0) = 1) inferInstance (lm_ret (some (.int (Int32.ofInt 0))))))
set_option maxRecDepth 100000 in
theorem lm_e101_156 {sc : lm_H} {d : Nat} {x0 : Nat} {x1 : Nat} {x2 : Int32} {x4 : Int32} {σ : lm_S} {r : Except Nat lm_R × lm_S} (h : lm_q101_156 sc (lm_cal sc d) (lm_rn sc d lm_m101.2.2.2.2.1 (lm_reg lm_m101.2.2.2.2.2)) x0 x1 x2 x4  σ = some r) : lm_rn sc d lm_m101.2.2.2.2.1 (lm_reg lm_m101.2.2.2.2.2) (156, [(0, .ref x0), (1, .ref x1), (2, .int x2), (4, .int x4)], []) σ = some r := lm_rn_of h
/-- LatticeSuiteModel.hints, from 17 on -/
noncomputable def lm_q101_17 (sc : lm_H) (A : Nat → List Value → lm_M lm_R) (B : lm_F → lm_M lm_R) (x0 : Nat) (x1 : Nat) (x2 : Int32) (x3 : Int32) (x4 : Int32) (x5 : Int32) : lm_M lm_R :=
  lm_if .ge x5 (Int32.ofInt 256) (lm_bind (lm_gI 4588 x0) fun v1 =>
  lm_bind (lm_bald sc x1 ((x2 + v1) + x4)) fun v2 =>
  lm_if .lt (v2 &&& (Int32.ofInt 255)) x3 (lm_when ((Int32.ofInt 0) = 0 ∨ (Int32.ofInt 0) = 1) inferInstance (lm_ret (some (.int (Int32.ofInt 0))))) (lm_bind (lm_gI 4588 x0) fun v3 =>
  lm_if .le (v2 &&& (Int32.ofInt 255)) v3 (B (79, [(0, .ref x0), (1, .ref x1), (2, .int x2), (3, .int x3), (4, .int x4), (5, .int (v2 &&& (Int32.ofInt 255))), (6, .int x3)], [])) (lm_when ((Int32.ofInt 0) = 0 ∨ (Int32.ofInt 0) = 1) inferInstance (lm_ret (some (.int (Int32.ofInt 0))))))) (lm_bind (lm_gR 4558 x0) fun v4 =>
  lm_bind (lm_aaR sc v4 x4) fun v5 =>
  lm_bind (lm_bast v5 x5 (Int32.ofInt 0)) fun _ =>
  B (17, [(0, .ref x0), (1, .ref x1), (2, .int x2), (3, .int x3), (4, .int x4), (5, .int (x5 + Int32.ofInt 1))], []))
set_option maxRecDepth 100000 in
theorem lm_e101_17 {sc : lm_H} {d : Nat} {x0 : Nat} {x1 : Nat} {x2 : Int32} {x3 : Int32} {x4 : Int32} {x5 : Int32} {σ : lm_S} {r : Except Nat lm_R × lm_S} (h : lm_q101_17 sc (lm_cal sc d) (lm_rn sc d lm_m101.2.2.2.2.1 (lm_reg lm_m101.2.2.2.2.2)) x0 x1 x2 x3 x4 x5  σ = some r) : lm_rn sc d lm_m101.2.2.2.2.1 (lm_reg lm_m101.2.2.2.2.2) (17, [(0, .ref x0), (1, .ref x1), (2, .int x2), (3, .int x3), (4, .int x4), (5, .int x5)], []) σ = some r := lm_rn_of h
/-- LatticeSuiteModel.hints, from 79 on -/
noncomputable def lm_q101_79 (sc : lm_H) (A : Nat → List Value → lm_M lm_R) (B : lm_F → lm_M lm_R) (x0 : Nat) (x1 : Nat) (x2 : Int32) (x3 : Int32) (x4 : Int32) (x5 : Int32) (x6 : Int32) : lm_M lm_R :=
  lm_if .ge x6 x5 (B (5, [(0, .ref x0), (1, .ref x1), (2, .int x2), (3, .int x5), (4, .int (x4 + Int32.ofInt 1))], [])) (lm_if .le x6 x3 (B (119, [(0, .ref x0), (1, .ref x1), (2, .int x2), (3, .int x3), (4, .int x4), (5, .int x5), (6, .int x6)], [])) (lm_bind (lm_bald sc x1 (x2 + x6)) fun v1 =>
  lm_bind (lm_bald sc x1 ((x2 + x6) - (Int32.ofInt 1))) fun v2 =>
  lm_if .gt (v1 &&& (Int32.ofInt 255)) (v2 &&& (Int32.ofInt 255)) (B (119, [(0, .ref x0), (1, .ref x1), (2, .int x2), (3, .int x3), (4, .int x4), (5, .int x5), (6, .int x6)], [])) (lm_when ((Int32.ofInt 0) = 0 ∨ (Int32.ofInt 0) = 1) inferInstance (lm_ret (some (.int (Int32.ofInt 0)))))))
set_option maxRecDepth 100000 in
theorem lm_e101_79 {sc : lm_H} {d : Nat} {x0 : Nat} {x1 : Nat} {x2 : Int32} {x3 : Int32} {x4 : Int32} {x5 : Int32} {x6 : Int32} {σ : lm_S} {r : Except Nat lm_R × lm_S} (h : lm_q101_79 sc (lm_cal sc d) (lm_rn sc d lm_m101.2.2.2.2.1 (lm_reg lm_m101.2.2.2.2.2)) x0 x1 x2 x3 x4 x5 x6  σ = some r) : lm_rn sc d lm_m101.2.2.2.2.1 (lm_reg lm_m101.2.2.2.2.2) (79, [(0, .ref x0), (1, .ref x1), (2, .int x2), (3, .int x3), (4, .int x4), (5, .int x5), (6, .int x6)], []) σ = some r := lm_rn_of h
/-- LatticeSuiteModel.hints, from 119 on -/
noncomputable def lm_q101_119 (sc : lm_H) (A : Nat → List Value → lm_M lm_R) (B : lm_F → lm_M lm_R) (x0 : Nat) (x1 : Nat) (x2 : Int32) (x3 : Int32) (x4 : Int32) (x5 : Int32) (x6 : Int32) : lm_M lm_R :=
  lm_bind (lm_gR 4558 x0) fun v1 =>
  lm_bind (lm_aaR sc v1 x4) fun v2 =>
  lm_bind (lm_bald sc x1 (x2 + x6)) fun v3 =>
  lm_bind (lm_bast v2 (v3 &&& (Int32.ofInt 255)) (Int32.ofInt 1)) fun _ =>
  B (79, [(0, .ref x0), (1, .ref x1), (2, .int x2), (3, .int x3), (4, .int x4), (5, .int x5), (6, .int (x6 + Int32.ofInt 1))], [])
set_option maxRecDepth 100000 in
theorem lm_e101_119 {sc : lm_H} {d : Nat} {x0 : Nat} {x1 : Nat} {x2 : Int32} {x3 : Int32} {x4 : Int32} {x5 : Int32} {x6 : Int32} {σ : lm_S} {r : Except Nat lm_R × lm_S} (h : lm_q101_119 sc (lm_cal sc d) (lm_rn sc d lm_m101.2.2.2.2.1 (lm_reg lm_m101.2.2.2.2.2)) x0 x1 x2 x3 x4 x5 x6  σ = some r) : lm_rn sc d lm_m101.2.2.2.2.1 (lm_reg lm_m101.2.2.2.2.2) (119, [(0, .ref x0), (1, .ref x1), (2, .int x2), (3, .int x3), (4, .int x4), (5, .int x5), (6, .int x6)], []) σ = some r := lm_rn_of h
/-- LatticeSuiteModel.ball, from 0 on -/
noncomputable def lm_q102_0 (sc : lm_H) (A : Nat → List Value → lm_M lm_R) (B : lm_F → lm_M lm_R) (x0 : Nat) (x1 : Nat) (x2 : Nat) (x3 : Int32) : lm_M lm_R :=
  lm_bind (lm_sel [(11, 61)] (some (.ref x0))) fun y1 =>
  lm_bind (lm_asV (A y1 [.ref x0, .int (Int32.ofInt 12)])) fun _ =>
  lm_bind (lm_gI 4592 x0) fun v2 =>
  lm_bind (lm_sel [(11, 62)] (some (.ref x0))) fun y3 =>
  lm_bind (lm_asV (A y3 [.ref x0, .ref x2, .int x3, .int v2])) fun _ =>
  lm_bind (lm_sel [(11, 147)] (some (.ref x0))) fun y4 =>
  lm_bind (lm_asV (A y4 [.ref x0])) fun _ =>
  B (23, [(0, .ref x0), (1, .ref x1), (4, .int (Int32.ofInt 0))], [])
set_option maxRecDepth 100000 in
theorem lm_e102_0 {sc : lm_H} {d : Nat} {x0 : Nat} {x1 : Nat} {x2 : Nat} {x3 : Int32} {σ : lm_S} {r : Except Nat lm_R × lm_S} (h : lm_q102_0 sc (lm_cal sc d) (lm_rn sc d lm_m102.2.2.2.2.1 (lm_reg lm_m102.2.2.2.2.2)) x0 x1 x2 x3  σ = some r) : lm_rn sc d lm_m102.2.2.2.2.1 (lm_reg lm_m102.2.2.2.2.2) (0, [(0, .ref x0), (1, .ref x1), (2, .ref x2), (3, .int x3)], []) σ = some r := lm_rn_of h
/-- LatticeSuiteModel.ball, from 23 on -/
noncomputable def lm_q102_23 (sc : lm_H) (A : Nat → List Value → lm_M lm_R) (B : lm_F → lm_M lm_R) (x0 : Nat) (x1 : Nat) (x4 : Int32) : lm_M lm_R :=
  lm_if .ge x4 (Int32.ofInt 8) (lm_bind (lm_asV (A 81 [.ref x1])) fun _ =>
  lm_bind (lm_gI 4576 x0) fun v1 =>
  B (65, [(0, .ref x0), (1, .ref x1), (4, .int (Int32.ofInt 0)), (5, .int ((Int32.ofInt 256) - v1))], [])) (lm_bind (lm_gR 4494 x0) fun v2 =>
  lm_bind (lm_sel [(11, 149)] (some (.ref x0))) fun y3 =>
  lm_bind (lm_asI (A y3 [.ref x0])) fun v4 =>
  lm_bind (lm_bast v2 x4 (lm_b8 v4)) fun _ =>
  B (23, [(0, .ref x0), (1, .ref x1), (4, .int (x4 + Int32.ofInt 1))], []))
set_option maxRecDepth 100000 in
theorem lm_e102_23 {sc : lm_H} {d : Nat} {x0 : Nat} {x1 : Nat} {x4 : Int32} {σ : lm_S} {r : Except Nat lm_R × lm_S} (h : lm_q102_23 sc (lm_cal sc d) (lm_rn sc d lm_m102.2.2.2.2.1 (lm_reg lm_m102.2.2.2.2.2)) x0 x1 x4  σ = some r) : lm_rn sc d lm_m102.2.2.2.2.1 (lm_reg lm_m102.2.2.2.2.2) (23, [(0, .ref x0), (1, .ref x1), (4, .int x4)], []) σ = some r := lm_rn_of h
/-- LatticeSuiteModel.ball, from 65 on -/
noncomputable def lm_q102_65 (sc : lm_H) (A : Nat → List Value → lm_M lm_R) (B : lm_F → lm_M lm_R) (x0 : Nat) (x1 : Nat) (x4 : Int32) (x5 : Int32) : lm_M lm_R :=
  lm_if .ge x5 (Int32.ofInt 256) (lm_when ((Int32.ofInt 1) = 0 ∨ (Int32.ofInt 1) = 1) inferInstance (lm_ret (some (.int (Int32.ofInt 1))))) (B (78, [(0, .ref x0), (1, .ref x1), (4, .int x4), (5, .int x5), (6, .int (Int32.ofInt 256))], []))
set_option maxRecDepth 100000 in
theorem lm_e102_65 {sc : lm_H} {d : Nat} {x0 : Nat} {x1 : Nat} {x4 : Int32} {x5 : Int32} {σ : lm_S} {r : Except Nat lm_R × lm_S} (h : lm_q102_65 sc (lm_cal sc d) (lm_rn sc d lm_m102.2.2.2.2.1 (lm_reg lm_m102.2.2.2.2.2)) x0 x1 x4 x5  σ = some r) : lm_rn sc d lm_m102.2.2.2.2.1 (lm_reg lm_m102.2.2.2.2.2) (65, [(0, .ref x0), (1, .ref x1), (4, .int x4), (5, .int x5)], []) σ = some r := lm_rn_of h
/-- LatticeSuiteModel.ball, from 78 on -/
noncomputable def lm_q102_78 (sc : lm_H) (A : Nat → List Value → lm_M lm_R) (B : lm_F → lm_M lm_R) (x0 : Nat) (x1 : Nat) (x4 : Int32) (x5 : Int32) (x6 : Int32) : lm_M lm_R :=
  lm_if .le x6 x5 (lm_bind (lm_iald sc x1 x6) fun v1 =>
  lm_bind (lm_iast x1 x5 v1) fun _ =>
  lm_bind (lm_gR 4494 x0) fun v2 =>
  lm_bind (lm_gI 4576 x0) fun v3 =>
  lm_bind (lm_asI (A 157 [.ref v2, .int (Int32.ofInt 0), .int ((x5 + v3) - (Int32.ofInt 256))])) fun v4 =>
  lm_if .ne v4 (Int32.ofInt 1) (B (145, [(0, .ref x0), (1, .ref x1), (4, .int x4), (5, .int x5)], [.int (Int32.ofInt 1), .int x6, .ref x1])) (B (145, [(0, .ref x0), (1, .ref x1), (4, .int x4), (5, .int x5)], [.int (Int32.ofInt (-1)), .int x6, .ref x1]))) (lm_if .ne x4 (Int32.ofInt 121) (lm_bind (lm_sel [(11, 149)] (some (.ref x0))) fun y5 =>
  lm_bind (lm_asI (A y5 [.ref x0])) fun v6 =>
  B (78, [(0, .ref x0), (1, .ref x1), (4, .int (x4 + Int32.ofInt 1)), (5, .int x5), (6, .int v6)], [])) (lm_when ((Int32.ofInt 0) = 0 ∨ (Int32.ofInt 0) = 1) inferInstance (lm_ret (some (.int (Int32.ofInt 0))))))
set_option maxRecDepth 100000 in
theorem lm_e102_78 {sc : lm_H} {d : Nat} {x0 : Nat} {x1 : Nat} {x4 : Int32} {x5 : Int32} {x6 : Int32} {σ : lm_S} {r : Except Nat lm_R × lm_S} (h : lm_q102_78 sc (lm_cal sc d) (lm_rn sc d lm_m102.2.2.2.2.1 (lm_reg lm_m102.2.2.2.2.2)) x0 x1 x4 x5 x6  σ = some r) : lm_rn sc d lm_m102.2.2.2.2.1 (lm_reg lm_m102.2.2.2.2.2) (78, [(0, .ref x0), (1, .ref x1), (4, .int x4), (5, .int x5), (6, .int x6)], []) σ = some r := lm_rn_of h
/-- LatticeSuiteModel.ball, from 145 on -/
noncomputable def lm_q102_145 (sc : lm_H) (A : Nat → List Value → lm_M lm_R) (B : lm_F → lm_M lm_R) (x0 : Nat) (x1 : Nat) (x4 : Int32) (x5 : Int32) (s0 : Int32) (s1 : Int32) (s2 : Nat) : lm_M lm_R :=
  lm_bind (lm_iast s2 s1 s0) fun _ =>
  B (65, [(0, .ref x0), (1, .ref x1), (4, .int x4), (5, .int (x5 + Int32.ofInt 1))], [])
set_option maxRecDepth 100000 in
theorem lm_e102_145 {sc : lm_H} {d : Nat} {x0 : Nat} {x1 : Nat} {x4 : Int32} {x5 : Int32} {s0 : Int32} {s1 : Int32} {s2 : Nat} {σ : lm_S} {r : Except Nat lm_R × lm_S} (h : lm_q102_145 sc (lm_cal sc d) (lm_rn sc d lm_m102.2.2.2.2.1 (lm_reg lm_m102.2.2.2.2.2)) x0 x1 x4 x5 s0 s1 s2 σ = some r) : lm_rn sc d lm_m102.2.2.2.2.1 (lm_reg lm_m102.2.2.2.2.2) (145, [(0, .ref x0), (1, .ref x1), (4, .int x4), (5, .int x5)], [.int s0, .int s1, .ref s2]) σ = some r := lm_rn_of h
/-- LatticeSuiteModel.high, from 0 on -/
noncomputable def lm_q103_0 (sc : lm_H) (A : Nat → List Value → lm_M lm_R) (B : lm_F → lm_M lm_R) (x0 : Nat) (x1 : Int32) : lm_M lm_R :=
  lm_bind (lm_gI 4584 x0) fun v1 =>
  lm_when (¬ ((Int32.ofInt 2) * v1) = 0) inferInstance (lm_bind (lm_gI 4584 x0) fun v2 =>
  lm_if .le (lm_rem x1 ((Int32.ofInt 2) * v1)) v2 (B (26, [(0, .ref x0), (1, .int x1), (2, .int (lm_rem x1 ((Int32.ofInt 2) * v1)))], [])) (lm_bind (lm_gI 4584 x0) fun v3 =>
  B (26, [(0, .ref x0), (1, .int x1), (2, .int ((lm_rem x1 ((Int32.ofInt 2) * v1)) - ((Int32.ofInt 2) * v3)))], [])))
set_option maxRecDepth 100000 in
theorem lm_e103_0 {sc : lm_H} {d : Nat} {x0 : Nat} {x1 : Int32} {σ : lm_S} {r : Except Nat lm_R × lm_S} (h : lm_q103_0 sc (lm_cal sc d) (lm_rn sc d lm_m103.2.2.2.2.1 (lm_reg lm_m103.2.2.2.2.2)) x0 x1  σ = some r) : lm_rn sc d lm_m103.2.2.2.2.1 (lm_reg lm_m103.2.2.2.2.2) (0, [(0, .ref x0), (1, .int x1)], []) σ = some r := lm_rn_of h
/-- LatticeSuiteModel.high, from 26 on -/
noncomputable def lm_q103_26 (sc : lm_H) (A : Nat → List Value → lm_M lm_R) (B : lm_F → lm_M lm_R) (x0 : Nat) (x1 : Int32) (x2 : Int32) : lm_M lm_R :=
  lm_if .ne (x1 - x2) (Int32.ofInt 8380416) (lm_bind (lm_gI 4584 x0) fun v1 =>
  lm_when (¬ ((Int32.ofInt 2) * v1) = 0) inferInstance (lm_ret (some (.int ((x1 - x2) / ((Int32.ofInt 2) * v1)))))) (lm_ret (some (.int (Int32.ofInt 0))))
set_option maxRecDepth 100000 in
theorem lm_e103_26 {sc : lm_H} {d : Nat} {x0 : Nat} {x1 : Int32} {x2 : Int32} {σ : lm_S} {r : Except Nat lm_R × lm_S} (h : lm_q103_26 sc (lm_cal sc d) (lm_rn sc d lm_m103.2.2.2.2.1 (lm_reg lm_m103.2.2.2.2.2)) x0 x1 x2  σ = some r) : lm_rn sc d lm_m103.2.2.2.2.1 (lm_reg lm_m103.2.2.2.2.2) (26, [(0, .ref x0), (1, .int x1), (2, .int x2)], []) σ = some r := lm_rn_of h
/-- LatticeSuiteModel.low, from 0 on -/
noncomputable def lm_q104_0 (sc : lm_H) (A : Nat → List Value → lm_M lm_R) (B : lm_F → lm_M lm_R) (x0 : Nat) (x1 : Int32) : lm_M lm_R :=
  lm_bind (lm_gI 4584 x0) fun v1 =>
  lm_when (¬ ((Int32.ofInt 2) * v1) = 0) inferInstance (lm_bind (lm_gI 4584 x0) fun v2 =>
  lm_if .le (lm_rem x1 ((Int32.ofInt 2) * v1)) v2 (B (26, [(1, .int x1), (2, .int (lm_rem x1 ((Int32.ofInt 2) * v1)))], [])) (lm_bind (lm_gI 4584 x0) fun v3 =>
  B (26, [(1, .int x1), (2, .int ((lm_rem x1 ((Int32.ofInt 2) * v1)) - ((Int32.ofInt 2) * v3)))], [])))
set_option maxRecDepth 100000 in
theorem lm_e104_0 {sc : lm_H} {d : Nat} {x0 : Nat} {x1 : Int32} {σ : lm_S} {r : Except Nat lm_R × lm_S} (h : lm_q104_0 sc (lm_cal sc d) (lm_rn sc d lm_m104.2.2.2.2.1 (lm_reg lm_m104.2.2.2.2.2)) x0 x1  σ = some r) : lm_rn sc d lm_m104.2.2.2.2.1 (lm_reg lm_m104.2.2.2.2.2) (0, [(0, .ref x0), (1, .int x1)], []) σ = some r := lm_rn_of h
/-- LatticeSuiteModel.low, from 26 on -/
noncomputable def lm_q104_26 (sc : lm_H) (A : Nat → List Value → lm_M lm_R) (B : lm_F → lm_M lm_R) (x1 : Int32) (x2 : Int32) : lm_M lm_R :=
  lm_if .ne (x1 - x2) (Int32.ofInt 8380416) (lm_ret (some (.int x2))) (lm_ret (some (.int (x2 - (Int32.ofInt 1)))))
set_option maxRecDepth 100000 in
theorem lm_e104_26 {sc : lm_H} {d : Nat} {x1 : Int32} {x2 : Int32} {σ : lm_S} {r : Except Nat lm_R × lm_S} (h : lm_q104_26 sc (lm_cal sc d) (lm_rn sc d lm_m104.2.2.2.2.1 (lm_reg lm_m104.2.2.2.2.2)) x1 x2  σ = some r) : lm_rn sc d lm_m104.2.2.2.2.1 (lm_reg lm_m104.2.2.2.2.2) (26, [(1, .int x1), (2, .int x2)], []) σ = some r := lm_rn_of h
/-- LatticeSuiteModel.challenge, from 0 on -/
noncomputable def lm_q105_0 (sc : lm_H) (A : Nat → List Value → lm_M lm_R) (B : lm_F → lm_M lm_R) (x0 : Nat) (x1 : Int32) (x2 : Nat) : lm_M lm_R :=
  lm_bind (lm_putf 4496 x0 (.int (Int32.ofInt 0))) fun _ =>
  lm_bind (lm_gI 4584 x0) fun v1 =>
  lm_if .ne v1 (Int32.ofInt 261888) (B (21, [(0, .ref x0), (1, .int x1), (2, .ref x2)], [.int (Int32.ofInt 6)])) (B (21, [(0, .ref x0), (1, .int x1), (2, .ref x2)], [.int (Int32.ofInt 4)]))
set_option maxRecDepth 100000 in
theorem lm_e105_0 {sc : lm_H} {d : Nat} {x0 : Nat} {x1 : Int32} {x2 : Nat} {σ : lm_S} {r : Except Nat lm_R × lm_S} (h : lm_q105_0 sc (lm_cal sc d) (lm_rn sc d lm_m105.2.2.2.2.1 (lm_reg lm_m105.2.2.2.2.2)) x0 x1 x2  σ = some r) : lm_rn sc d lm_m105.2.2.2.2.1 (lm_reg lm_m105.2.2.2.2.2) (0, [(0, .ref x0), (1, .int x1), (2, .ref x2)], []) σ = some r := lm_rn_of h
/-- LatticeSuiteModel.challenge, from 21 on -/
noncomputable def lm_q105_21 (sc : lm_H) (A : Nat → List Value → lm_M lm_R) (B : lm_F → lm_M lm_R) (x0 : Nat) (x1 : Int32) (x2 : Nat) (s0 : Int32) : lm_M lm_R :=
  B (25, [(0, .ref x0), (1, .int x1), (2, .ref x2), (3, .int s0), (4, .int (Int32.ofInt 0))], [])
set_option maxRecDepth 100000 in
theorem lm_e105_21 {sc : lm_H} {d : Nat} {x0 : Nat} {x1 : Int32} {x2 : Nat} {s0 : Int32} {σ : lm_S} {r : Except Nat lm_R × lm_S} (h : lm_q105_21 sc (lm_cal sc d) (lm_rn sc d lm_m105.2.2.2.2.1 (lm_reg lm_m105.2.2.2.2.2)) x0 x1 x2 s0 σ = some r) : lm_rn sc d lm_m105.2.2.2.2.1 (lm_reg lm_m105.2.2.2.2.2) (21, [(0, .ref x0), (1, .int x1), (2, .ref x2)], [.int s0]) σ = some r := lm_rn_of h
/-- LatticeSuiteModel.challenge, from 25 on -/
noncomputable def lm_q105_25 (sc : lm_H) (A : Nat → List Value → lm_M lm_R) (B : lm_F → lm_M lm_R) (x0 : Nat) (x1 : Int32) (x2 : Nat) (x3 : Int32) (x4 : Int32) : lm_M lm_R :=
  lm_bind (lm_gI 4528 x0) fun v1 =>
  lm_if .ge x4 v1 (lm_bind (lm_sel [(11, 61)] (some (.ref x0))) fun y2 =>
  lm_bind (lm_asV (A y2 [.ref x0, .int (Int32.ofInt 12)])) fun _ =>
  lm_bind (lm_gR 4606 x0) fun v3 =>
  lm_bind (lm_sel [(11, 62)] (some (.ref x0))) fun y4 =>
  lm_bind (lm_asV (A y4 [.ref x0, .ref v3, .int (Int32.ofInt 0), .int (Int32.ofInt 64)])) fun _ =>
  lm_bind (lm_gR 4562 x0) fun v5 =>
  lm_bind (lm_gI 4528 x0) fun v6 =>
  lm_bind (lm_sel [(11, 62)] (some (.ref x0))) fun y7 =>
  lm_bind (lm_asV (A y7 [.ref x0, .ref v5, .int (Int32.ofInt 0), .int (((Int32.ofInt 32) * x3) * v6)])) fun _ =>
  lm_bind (lm_gI 4592 x0) fun v8 =>
  lm_bind (lm_sel [(11, 63)] (some (.ref x0))) fun y9 =>
  lm_bind (lm_asV (A y9 [.ref x0, .ref x2, .int (Int32.ofInt 0), .int v8])) fun _ =>
  lm_ret none) (B (37, [(0, .ref x0), (1, .int x1), (2, .ref x2), (3, .int x3), (4, .int x4), (5, .int (Int32.ofInt 0))], []))
set_option maxRecDepth 100000 in
theorem lm_e105_25 {sc : lm_H} {d : Nat} {x0 : Nat} {x1 : Int32} {x2 : Nat} {x3 : Int32} {x4 : Int32} {σ : lm_S} {r : Except Nat lm_R × lm_S} (h : lm_q105_25 sc (lm_cal sc d) (lm_rn sc d lm_m105.2.2.2.2.1 (lm_reg lm_m105.2.2.2.2.2)) x0 x1 x2 x3 x4  σ = some r) : lm_rn sc d lm_m105.2.2.2.2.1 (lm_reg lm_m105.2.2.2.2.2) (25, [(0, .ref x0), (1, .int x1), (2, .ref x2), (3, .int x3), (4, .int x4)], []) σ = some r := lm_rn_of h
/-- LatticeSuiteModel.challenge, from 37 on -/
noncomputable def lm_q105_37 (sc : lm_H) (A : Nat → List Value → lm_M lm_R) (B : lm_F → lm_M lm_R) (x0 : Nat) (x1 : Int32) (x2 : Nat) (x3 : Int32) (x4 : Int32) (x5 : Int32) : lm_M lm_R :=
  lm_if .ge x5 (Int32.ofInt 256) (B (25, [(0, .ref x0), (1, .int x1), (2, .ref x2), (3, .int x3), (4, .int (x4 + Int32.ofInt 1))], [])) (lm_bind (lm_gR 4562 x0) fun v1 =>
  lm_bind (lm_gR 4554 x0) fun v2 =>
  lm_bind (lm_aaR sc v2 (x1 + x4)) fun v3 =>
  lm_bind (lm_iald sc v3 x5) fun v4 =>
  lm_bind (lm_sel [(11, 74)] (some (.ref x0))) fun y5 =>
  lm_bind (lm_asV (A y5 [.ref x0, .ref v1, .int (Int32.ofInt 0), .int v4, .int x3])) fun _ =>
  B (37, [(0, .ref x0), (1, .int x1), (2, .ref x2), (3, .int x3), (4, .int x4), (5, .int (x5 + Int32.ofInt 1))], []))
set_option maxRecDepth 100000 in
theorem lm_e105_37 {sc : lm_H} {d : Nat} {x0 : Nat} {x1 : Int32} {x2 : Nat} {x3 : Int32} {x4 : Int32} {x5 : Int32} {σ : lm_S} {r : Except Nat lm_R × lm_S} (h : lm_q105_37 sc (lm_cal sc d) (lm_rn sc d lm_m105.2.2.2.2.1 (lm_reg lm_m105.2.2.2.2.2)) x0 x1 x2 x3 x4 x5  σ = some r) : lm_rn sc d lm_m105.2.2.2.2.1 (lm_reg lm_m105.2.2.2.2.2) (37, [(0, .ref x0), (1, .int x1), (2, .ref x2), (3, .int x3), (4, .int x4), (5, .int x5)], []) σ = some r := lm_rn_of h
/-- LatticeSuite.slhKeys, from 0 on -/
noncomputable def lm_q106_0 (sc : lm_H) (A : Nat → List Value → lm_M lm_R) (B : lm_F → lm_M lm_R) (x0 : Nat) (x1 : Int32) : lm_M lm_R :=
  lm_bind (lm_asV (A 132 [.int x1, .int (Int32.ofInt 0), .int (Int32.ofInt 11)])) fun _ =>
  lm_bind (lm_gR 26 x0) fun v1 =>
  lm_bind (lm_sel [(10, 176)] (some (.ref v1))) fun y2 =>
  lm_bind (lm_asV (A y2 [.ref v1, .int x1])) fun _ =>
  lm_bind (lm_gR 2 x0) fun v3 =>
  lm_bind (lm_aaR sc v3 (Int32.ofInt 0)) fun v4 =>
  lm_bind (lm_gI 404 v4) fun v5 =>
  lm_bind (lm_gR 26 x0) fun v6 =>
  lm_bind (lm_gI 4016 v6) fun v7 =>
  lm_if .ne v5 ((Int32.ofInt 3) * v7) (B (41, [(0, .ref x0)], [.int (Int32.ofInt 0)])) (B (41, [(0, .ref x0)], [.int (Int32.ofInt 1)]))
set_option maxRecDepth 100000 in
theorem lm_e106_0 {sc : lm_H} {d : Nat} {x0 : Nat} {x1 : Int32} {σ : lm_S} {r : Except Nat lm_R × lm_S} (h : lm_q106_0 sc (lm_cal sc d) (lm_rn sc d lm_m106.2.2.2.2.1 (lm_reg lm_m106.2.2.2.2.2)) x0 x1  σ = some r) : lm_rn sc d lm_m106.2.2.2.2.1 (lm_reg lm_m106.2.2.2.2.2) (0, [(0, .ref x0), (1, .int x1)], []) σ = some r := lm_rn_of h
/-- LatticeSuite.slhKeys, from 41 on -/
noncomputable def lm_q106_41 (sc : lm_H) (A : Nat → List Value → lm_M lm_R) (B : lm_F → lm_M lm_R) (x0 : Nat) (s0 : Int32) : lm_M lm_R :=
  lm_bind (lm_asV (A 150 [.int s0])) fun _ =>
  lm_bind (lm_gR 26 x0) fun v1 =>
  lm_bind (lm_gR 2 x0) fun v2 =>
  lm_bind (lm_aaR sc v2 (Int32.ofInt 0)) fun v3 =>
  lm_bind (lm_gR 402 v3) fun v4 =>
  lm_bind (lm_gR 2 x0) fun v5 =>
  lm_bind (lm_aaR sc v5 (Int32.ofInt 1)) fun v6 =>
  lm_bind (lm_gR 2 x0) fun v7 =>
  lm_bind (lm_aaR sc v7 (Int32.ofInt 2)) fun v8 =>
  lm_bind (lm_sel [(10, 177)] (some (.ref v1))) fun y9 =>
  lm_bind (lm_asV (A y9 [.ref v1, .ref v4, .ref v6, .ref v8])) fun _ =>
  lm_bind (lm_gR 2 x0) fun v10 =>
  lm_bind (lm_aaR sc v10 (Int32.ofInt 2)) fun v11 =>
  lm_bind (lm_gI 404 v11) fun v12 =>
  lm_ret (some (.int v12))
set_option maxRecDepth 100000 in
theorem lm_e106_41 {sc : lm_H} {d : Nat} {x0 : Nat} {s0 : Int32} {σ : lm_S} {r : Except Nat lm_R × lm_S} (h : lm_q106_41 sc (lm_cal sc d) (lm_rn sc d lm_m106.2.2.2.2.1 (lm_reg lm_m106.2.2.2.2.2)) x0 s0 σ = some r) : lm_rn sc d lm_m106.2.2.2.2.1 (lm_reg lm_m106.2.2.2.2.2) (41, [(0, .ref x0)], [.int s0]) σ = some r := lm_rn_of h
/-- LatticeSuiteModel.slh, from 0 on -/
noncomputable def lm_q107_0 (sc : lm_H) (A : Nat → List Value → lm_M lm_R) (B : lm_F → lm_M lm_R) (x0 : Nat) (x1 : Int32) : lm_M lm_R :=
  lm_when (¬ (Int32.ofInt 6) = 0) inferInstance (lm_if .ge (lm_rem x1 (Int32.ofInt 6)) (Int32.ofInt 2) (lm_if .ge (lm_rem x1 (Int32.ofInt 6)) (Int32.ofInt 4) (B (28, [(0, .ref x0), (1, .int x1), (2, .int (lm_rem x1 (Int32.ofInt 6)))], [.int (Int32.ofInt 32), .ref x0])) (B (28, [(0, .ref x0), (1, .int x1), (2, .int (lm_rem x1 (Int32.ofInt 6)))], [.int (Int32.ofInt 24), .ref x0]))) (B (28, [(0, .ref x0), (1, .int x1), (2, .int (lm_rem x1 (Int32.ofInt 6)))], [.int (Int32.ofInt 16), .ref x0])))
set_option maxRecDepth 100000 in
theorem lm_e107_0 {sc : lm_H} {d : Nat} {x0 : Nat} {x1 : Int32} {σ : lm_S} {r : Except Nat lm_R × lm_S} (h : lm_q107_0 sc (lm_cal sc d) (lm_rn sc d lm_m107.2.2.2.2.1 (lm_reg lm_m107.2.2.2.2.2)) x0 x1  σ = some r) : lm_rn sc d lm_m107.2.2.2.2.1 (lm_reg lm_m107.2.2.2.2.2) (0, [(0, .ref x0), (1, .int x1)], []) σ = some r := lm_rn_of h
/-- LatticeSuiteModel.slh, from 28 on -/
noncomputable def lm_q107_28 (sc : lm_H) (A : Nat → List Value → lm_M lm_R) (B : lm_F → lm_M lm_R) (x0 : Nat) (x1 : Int32) (x2 : Int32) (s0 : Int32) (s1 : Nat) : lm_M lm_R :=
  lm_bind (lm_putf 4668 s1 (.int s0)) fun _ =>
  lm_if .eq x2 0 (B (41, [(0, .ref x0), (1, .int x1), (2, .int x2)], [.ref x0])) (lm_if .ne x2 (Int32.ofInt 2) (lm_if .ne x2 (Int32.ofInt 4) (lm_if .ne x2 (Int32.ofInt 5) (B (68, [(0, .ref x0), (1, .int x1), (2, .int x2)], [.int (Int32.ofInt 66), .ref x0])) (B (68, [(0, .ref x0), (1, .int x1), (2, .int x2)], [.int (Int32.ofInt 68), .ref x0]))) (B (68, [(0, .ref x0), (1, .int x1), (2, .int x2)], [.int (Int32.ofInt 64), .ref x0]))) (B (41, [(0, .ref x0), (1, .int x1), (2, .int x2)], [.ref x0])))
set_option maxRecDepth 100000 in
theorem lm_e107_28 {sc : lm_H} {d : Nat} {x0 : Nat} {x1 : Int32} {x2 : Int32} {s0 : Int32} {s1 : Nat} {σ : lm_S} {r : Except Nat lm_R × lm_S} (h : lm_q107_28 sc (lm_cal sc d) (lm_rn sc d lm_m107.2.2.2.2.1 (lm_reg lm_m107.2.2.2.2.2)) x0 x1 x2 s0 s1 σ = some r) : lm_rn sc d lm_m107.2.2.2.2.1 (lm_reg lm_m107.2.2.2.2.2) (28, [(0, .ref x0), (1, .int x1), (2, .int x2)], [.int s0, .ref s1]) σ = some r := lm_rn_of h
/-- LatticeSuiteModel.slh, from 41 on -/
noncomputable def lm_q107_41 (sc : lm_H) (A : Nat → List Value → lm_M lm_R) (B : lm_F → lm_M lm_R) (x0 : Nat) (x1 : Int32) (x2 : Int32) (s0 : Nat) : lm_M lm_R :=
  B (68, [(0, .ref x0), (1, .int x1), (2, .int x2)], [.int (Int32.ofInt 63), .ref s0])
set_option maxRecDepth 100000 in
theorem lm_e107_41 {sc : lm_H} {d : Nat} {x0 : Nat} {x1 : Int32} {x2 : Int32} {s0 : Nat} {σ : lm_S} {r : Except Nat lm_R × lm_S} (h : lm_q107_41 sc (lm_cal sc d) (lm_rn sc d lm_m107.2.2.2.2.1 (lm_reg lm_m107.2.2.2.2.2)) x0 x1 x2 s0 σ = some r) : lm_rn sc d lm_m107.2.2.2.2.1 (lm_reg lm_m107.2.2.2.2.2) (41, [(0, .ref x0), (1, .int x1), (2, .int x2)], [.ref s0]) σ = some r := lm_rn_of h
/-- LatticeSuiteModel.slh, from 68 on -/
noncomputable def lm_q107_68 (sc : lm_H) (A : Nat → List Value → lm_M lm_R) (B : lm_F → lm_M lm_R) (x0 : Nat) (x1 : Int32) (x2 : Int32) (s0 : Int32) (s1 : Nat) : lm_M lm_R :=
  lm_bind (lm_putf 4672 s1 (.int s0)) fun _ =>
  lm_if .eq x2 0 (B (81, [(0, .ref x0), (1, .int x1), (2, .int x2)], [.ref x0])) (lm_if .ne x2 (Int32.ofInt 2) (lm_if .ne x2 (Int32.ofInt 4) (lm_if .ne x2 (Int32.ofInt 5) (B (108, [(0, .ref x0), (1, .int x1), (2, .int x2)], [.int (Int32.ofInt 22), .ref x0])) (B (108, [(0, .ref x0), (1, .int x1), (2, .int x2)], [.int (Int32.ofInt 17), .ref x0]))) (B (108, [(0, .ref x0), (1, .int x1), (2, .int x2)], [.int (Int32.ofInt 8), .ref x0]))) (B (81, [(0, .ref x0), (1, .int x1), (2, .int x2)], [.ref x0])))
set_option maxRecDepth 100000 in
theorem lm_e107_68 {sc : lm_H} {d : Nat} {x0 : Nat} {x1 : Int32} {x2 : Int32} {s0 : Int32} {s1 : Nat} {σ : lm_S} {r : Except Nat lm_R × lm_S} (h : lm_q107_68 sc (lm_cal sc d) (lm_rn sc d lm_m107.2.2.2.2.1 (lm_reg lm_m107.2.2.2.2.2)) x0 x1 x2 s0 s1 σ = some r) : lm_rn sc d lm_m107.2.2.2.2.1 (lm_reg lm_m107.2.2.2.2.2) (68, [(0, .ref x0), (1, .int x1), (2, .int x2)], [.int s0, .ref s1]) σ = some r := lm_rn_of h
/-- LatticeSuiteModel.slh, from 81 on -/
noncomputable def lm_q107_81 (sc : lm_H) (A : Nat → List Value → lm_M lm_R) (B : lm_F → lm_M lm_R) (x0 : Nat) (x1 : Int32) (x2 : Int32) (s0 : Nat) : lm_M lm_R :=
  B (108, [(0, .ref x0), (1, .int x1), (2, .int x2)], [.int (Int32.ofInt 7), .ref s0])
set_option maxRecDepth 100000 in
theorem lm_e107_81 {sc : lm_H} {d : Nat} {x0 : Nat} {x1 : Int32} {x2 : Int32} {s0 : Nat} {σ : lm_S} {r : Except Nat lm_R × lm_S} (h : lm_q107_81 sc (lm_cal sc d) (lm_rn sc d lm_m107.2.2.2.2.1 (lm_reg lm_m107.2.2.2.2.2)) x0 x1 x2 s0 σ = some r) : lm_rn sc d lm_m107.2.2.2.2.1 (lm_reg lm_m107.2.2.2.2.2) (81, [(0, .ref x0), (1, .int x1), (2, .int x2)], [.ref s0]) σ = some r := lm_rn_of h
/-- LatticeSuiteModel.slh, from 108 on -/
noncomputable def lm_q107_108 (sc : lm_H) (A : Nat → List Value → lm_M lm_R) (B : lm_F → lm_M lm_R) (x0 : Nat) (x1 : Int32) (x2 : Int32) (s0 : Int32) (s1 : Nat) : lm_M lm_R :=
  lm_bind (lm_putf 4676 s1 (.int s0)) fun _ =>
  lm_if .ne x2 0 (lm_if .ne x2 (Int32.ofInt 1) (lm_if .eq x2 (Int32.ofInt 2) (B (141, [(0, .ref x0), (1, .int x1), (2, .int x2)], [.ref x0])) (lm_if .ne x2 (Int32.ofInt 4) (lm_if .ne x2 (Int32.ofInt 3) (B (158, [(0, .ref x0), (1, .int x1), (2, .int x2)], [.int (Int32.ofInt 9), .ref x0])) (B (158, [(0, .ref x0), (1, .int x1), (2, .int x2)], [.int (Int32.ofInt 8), .ref x0]))) (B (141, [(0, .ref x0), (1, .int x1), (2, .int x2)], [.ref x0])))) (B (158, [(0, .ref x0), (1, .int x1), (2, .int x2)], [.int (Int32.ofInt 6), .ref x0]))) (B (158, [(0, .ref x0), (1, .int x1), (2, .int x2)], [.int (Int32.ofInt 12), .ref x0]))
set_option maxRecDepth 100000 in
theorem lm_e107_108 {sc : lm_H} {d : Nat} {x0 : Nat} {x1 : Int32} {x2 : Int32} {s0 : Int32} {s1 : Nat} {σ : lm_S} {r : Except Nat lm_R × lm_S} (h : lm_q107_108 sc (lm_cal sc d) (lm_rn sc d lm_m107.2.2.2.2.1 (lm_reg lm_m107.2.2.2.2.2)) x0 x1 x2 s0 s1 σ = some r) : lm_rn sc d lm_m107.2.2.2.2.1 (lm_reg lm_m107.2.2.2.2.2) (108, [(0, .ref x0), (1, .int x1), (2, .int x2)], [.int s0, .ref s1]) σ = some r := lm_rn_of h
/-- LatticeSuiteModel.slh, from 141 on -/
noncomputable def lm_q107_141 (sc : lm_H) (A : Nat → List Value → lm_M lm_R) (B : lm_F → lm_M lm_R) (x0 : Nat) (x1 : Int32) (x2 : Int32) (s0 : Nat) : lm_M lm_R :=
  B (158, [(0, .ref x0), (1, .int x1), (2, .int x2)], [.int (Int32.ofInt 14), .ref s0])
set_option maxRecDepth 100000 in
theorem lm_e107_141 {sc : lm_H} {d : Nat} {x0 : Nat} {x1 : Int32} {x2 : Int32} {s0 : Nat} {σ : lm_S} {r : Except Nat lm_R × lm_S} (h : lm_q107_141 sc (lm_cal sc d) (lm_rn sc d lm_m107.2.2.2.2.1 (lm_reg lm_m107.2.2.2.2.2)) x0 x1 x2 s0 σ = some r) : lm_rn sc d lm_m107.2.2.2.2.1 (lm_reg lm_m107.2.2.2.2.2) (141, [(0, .ref x0), (1, .int x1), (2, .int x2)], [.ref s0]) σ = some r := lm_rn_of h
/-- LatticeSuiteModel.slh, from 158 on -/
noncomputable def lm_q107_158 (sc : lm_H) (A : Nat → List Value → lm_M lm_R) (B : lm_F → lm_M lm_R) (x0 : Nat) (x1 : Int32) (x2 : Int32) (s0 : Int32) (s1 : Nat) : lm_M lm_R :=
  lm_bind (lm_putf 4684 s1 (.int s0)) fun _ =>
  lm_if .ne x2 0 (lm_if .eq x2 (Int32.ofInt 1) (B (181, [(0, .ref x0), (1, .int x1)], [.ref x0])) (lm_if .ne x2 (Int32.ofInt 3) (lm_if .ne x2 (Int32.ofInt 2) (lm_if .ne x2 (Int32.ofInt 4) (B (208, [(0, .ref x0), (1, .int x1)], [.int (Int32.ofInt 35), .ref x0])) (B (208, [(0, .ref x0), (1, .int x1)], [.int (Int32.ofInt 22), .ref x0]))) (B (208, [(0, .ref x0), (1, .int x1)], [.int (Int32.ofInt 17), .ref x0]))) (B (181, [(0, .ref x0), (1, .int x1)], [.ref x0])))) (B (208, [(0, .ref x0), (1, .int x1)], [.int (Int32.ofInt 14), .ref x0]))
set_option maxRecDepth 100000 in
theorem lm_e107_158 {sc : lm_H} {d : Nat} {x0 : Nat} {x1 : Int32} {x2 : Int32} {s0 : Int32} {s1 : Nat} {σ : lm_S} {r : Except Nat lm_R × lm_S} (h : lm_q107_158 sc (lm_cal sc d) (lm_rn sc d lm_m107.2.2.2.2.1 (lm_reg lm_m107.2.2.2.2.2)) x0 x1 x2 s0 s1 σ = some r) : lm_rn sc d lm_m107.2.2.2.2.1 (lm_reg lm_m107.2.2.2.2.2) (158, [(0, .ref x0), (1, .int x1), (2, .int x2)], [.int s0, .ref s1]) σ = some r := lm_rn_of h
/-- LatticeSuiteModel.slh, from 181 on -/
noncomputable def lm_q107_181 (sc : lm_H) (A : Nat → List Value → lm_M lm_R) (B : lm_F → lm_M lm_R) (x0 : Nat) (x1 : Int32) (s0 : Nat) : lm_M lm_R :=
  B (208, [(0, .ref x0), (1, .int x1)], [.int (Int32.ofInt 33), .ref s0])
set_option maxRecDepth 100000 in
theorem lm_e107_181 {sc : lm_H} {d : Nat} {x0 : Nat} {x1 : Int32} {s0 : Nat} {σ : lm_S} {r : Except Nat lm_R × lm_S} (h : lm_q107_181 sc (lm_cal sc d) (lm_rn sc d lm_m107.2.2.2.2.1 (lm_reg lm_m107.2.2.2.2.2)) x0 x1 s0 σ = some r) : lm_rn sc d lm_m107.2.2.2.2.1 (lm_reg lm_m107.2.2.2.2.2) (181, [(0, .ref x0), (1, .int x1)], [.ref s0]) σ = some r := lm_rn_of h
/-- LatticeSuiteModel.slh, from 208 on -/
noncomputable def lm_q107_208 (sc : lm_H) (A : Nat → List Value → lm_M lm_R) (B : lm_F → lm_M lm_R) (x0 : Nat) (x1 : Int32) (s0 : Int32) (s1 : Nat) : lm_M lm_R :=
  lm_bind (lm_putf 4688 s1 (.int s0)) fun _ =>
  lm_bind (lm_gI 4672 x0) fun v1 =>
  lm_bind (lm_gI 4676 x0) fun v2 =>
  lm_when (¬ v2 = 0) inferInstance (lm_bind (lm_putf 4680 x0 (.int (v1 / v2))) fun _ =>
  lm_bind (lm_gI 4668 x0) fun v3 =>
  lm_bind (lm_putf 4692 x0 (.int (((Int32.ofInt 2) * v3) + (Int32.ofInt 3)))) fun _ =>
  lm_if .ge x1 (Int32.ofInt 6) (B (248, [(0, .ref x0)], [.int (Int32.ofInt 0), .ref x0])) (B (248, [(0, .ref x0)], [.int (Int32.ofInt 1), .ref x0])))
set_option maxRecDepth 100000 in
theorem lm_e107_208 {sc : lm_H} {d : Nat} {x0 : Nat} {x1 : Int32} {s0 : Int32} {s1 : Nat} {σ : lm_S} {r : Except Nat lm_R × lm_S} (h : lm_q107_208 sc (lm_cal sc d) (lm_rn sc d lm_m107.2.2.2.2.1 (lm_reg lm_m107.2.2.2.2.2)) x0 x1 s0 s1 σ = some r) : lm_rn sc d lm_m107.2.2.2.2.1 (lm_reg lm_m107.2.2.2.2.2) (208, [(0, .ref x0), (1, .int x1)], [.int s0, .ref s1]) σ = some r := lm_rn_of h
/-- LatticeSuiteModel.slh, from 248 on -/
noncomputable def lm_q107_248 (sc : lm_H) (A : Nat → List Value → lm_M lm_R) (B : lm_F → lm_M lm_R) (x0 : Nat) (s0 : Int32) (s1 : Nat) : lm_M lm_R :=
  lm_bind (lm_putf 4699 s1 (.int s0)) fun _ =>
  B (253, [(0, .ref x0), (3, .int (Int32.ofInt 0))], [])
set_option maxRecDepth 100000 in
theorem lm_e107_248 {sc : lm_H} {d : Nat} {x0 : Nat} {s0 : Int32} {s1 : Nat} {σ : lm_S} {r : Except Nat lm_R × lm_S} (h : lm_q107_248 sc (lm_cal sc d) (lm_rn sc d lm_m107.2.2.2.2.1 (lm_reg lm_m107.2.2.2.2.2)) x0 s0 s1 σ = some r) : lm_rn sc d lm_m107.2.2.2.2.1 (lm_reg lm_m107.2.2.2.2.2) (248, [(0, .ref x0)], [.int s0, .ref s1]) σ = some r := lm_rn_of h
/-- LatticeSuiteModel.slh, from 253 on -/
noncomputable def lm_q107_253 (sc : lm_H) (A : Nat → List Value → lm_M lm_R) (B : lm_F → lm_M lm_R) (x0 : Nat) (x3 : Int32) : lm_M lm_R :=
  lm_if .ge x3 (Int32.ofInt 32) (lm_ret none) (lm_bind (lm_gR 4618 x0) fun v1 =>
  lm_bind (lm_bast v1 x3 (Int32.ofInt 0)) fun _ =>
  B (253, [(0, .ref x0), (3, .int (x3 + Int32.ofInt 1))], []))
set_option maxRecDepth 100000 in
theorem lm_e107_253 {sc : lm_H} {d : Nat} {x0 : Nat} {x3 : Int32} {σ : lm_S} {r : Except Nat lm_R × lm_S} (h : lm_q107_253 sc (lm_cal sc d) (lm_rn sc d lm_m107.2.2.2.2.1 (lm_reg lm_m107.2.2.2.2.2)) x0 x3  σ = some r) : lm_rn sc d lm_m107.2.2.2.2.1 (lm_reg lm_m107.2.2.2.2.2) (253, [(0, .ref x0), (3, .int x3)], []) σ = some r := lm_rn_of h
/-- LatticeSuiteModel.place, from 0 on -/
noncomputable def lm_q108_0 (sc : lm_H) (A : Nat → List Value → lm_M lm_R) (B : lm_F → lm_M lm_R) (x0 : Nat) (x1 : Int32) (x2 : Int64) : lm_M lm_R :=
  B (3, [(0, .ref x0), (1, .int x1), (2, .long x2), (4, .int (Int32.ofInt 0))], [])
set_option maxRecDepth 100000 in
theorem lm_e108_0 {sc : lm_H} {d : Nat} {x0 : Nat} {x1 : Int32} {x2 : Int64} {σ : lm_S} {r : Except Nat lm_R × lm_S} (h : lm_q108_0 sc (lm_cal sc d) (lm_rn sc d lm_m108.2.2.2.2.1 (lm_reg lm_m108.2.2.2.2.2)) x0 x1 x2  σ = some r) : lm_rn sc d lm_m108.2.2.2.2.1 (lm_reg lm_m108.2.2.2.2.2) (0, [(0, .ref x0), (1, .int x1), (2, .long x2)], []) σ = some r := lm_rn_of h
/-- LatticeSuiteModel.place, from 3 on -/
noncomputable def lm_q108_3 (sc : lm_H) (A : Nat → List Value → lm_M lm_R) (B : lm_F → lm_M lm_R) (x0 : Nat) (x1 : Int32) (x2 : Int64) (x4 : Int32) : lm_M lm_R :=
  lm_if .ge x4 (Int32.ofInt 4) (B (36, [(0, .ref x0), (2, .long x2), (4, .int (Int32.ofInt 0))], [])) (lm_bind (lm_gR 4618 x0) fun v1 =>
  lm_bind (lm_bast v1 x4 (lm_b8 (x1 >>> (((Int32.ofInt 24) - ((Int32.ofInt 8) * x4)) &&& 31)))) fun _ =>
  B (3, [(0, .ref x0), (1, .int x1), (2, .long x2), (4, .int (x4 + Int32.ofInt 1))], []))
set_option maxRecDepth 100000 in
theorem lm_e108_3 {sc : lm_H} {d : Nat} {x0 : Nat} {x1 : Int32} {x2 : Int64} {x4 : Int32} {σ : lm_S} {r : Except Nat lm_R × lm_S} (h : lm_q108_3 sc (lm_cal sc d) (lm_rn sc d lm_m108.2.2.2.2.1 (lm_reg lm_m108.2.2.2.2.2)) x0 x1 x2 x4  σ = some r) : lm_rn sc d lm_m108.2.2.2.2.1 (lm_reg lm_m108.2.2.2.2.2) (3, [(0, .ref x0), (1, .int x1), (2, .long x2), (4, .int x4)], []) σ = some r := lm_rn_of h
/-- LatticeSuiteModel.place, from 36 on -/
noncomputable def lm_q108_36 (sc : lm_H) (A : Nat → List Value → lm_M lm_R) (B : lm_F → lm_M lm_R) (x0 : Nat) (x2 : Int64) (x4 : Int32) : lm_M lm_R :=
  lm_if .ge x4 (Int32.ofInt 4) (B (61, [(0, .ref x0), (2, .long x2), (4, .int (Int32.ofInt 0))], [])) (lm_bind (lm_gR 4618 x0) fun v1 =>
  lm_bind (lm_bast v1 ((Int32.ofInt 4) + x4) (Int32.ofInt 0)) fun _ =>
  B (36, [(0, .ref x0), (2, .long x2), (4, .int (x4 + Int32.ofInt 1))], []))
set_option maxRecDepth 100000 in
theorem lm_e108_36 {sc : lm_H} {d : Nat} {x0 : Nat} {x2 : Int64} {x4 : Int32} {σ : lm_S} {r : Except Nat lm_R × lm_S} (h : lm_q108_36 sc (lm_cal sc d) (lm_rn sc d lm_m108.2.2.2.2.1 (lm_reg lm_m108.2.2.2.2.2)) x0 x2 x4  σ = some r) : lm_rn sc d lm_m108.2.2.2.2.1 (lm_reg lm_m108.2.2.2.2.2) (36, [(0, .ref x0), (2, .long x2), (4, .int x4)], []) σ = some r := lm_rn_of h
/-- LatticeSuiteModel.place, from 61 on -/
noncomputable def lm_q108_61 (sc : lm_H) (A : Nat → List Value → lm_M lm_R) (B : lm_F → lm_M lm_R) (x0 : Nat) (x2 : Int64) (x4 : Int32) : lm_M lm_R :=
  lm_if .ge x4 (Int32.ofInt 8) (lm_ret none) (lm_bind (lm_gR 4618 x0) fun v1 =>
  lm_bind (lm_bast v1 ((Int32.ofInt 8) + x4) (lm_b8 (Int64.toInt32 (x2 >>> ((Int32.toInt64 ((Int32.ofInt 56) - ((Int32.ofInt 8) * x4))) &&& 63))))) fun _ =>
  B (61, [(0, .ref x0), (2, .long x2), (4, .int (x4 + Int32.ofInt 1))], []))
set_option maxRecDepth 100000 in
theorem lm_e108_61 {sc : lm_H} {d : Nat} {x0 : Nat} {x2 : Int64} {x4 : Int32} {σ : lm_S} {r : Except Nat lm_R × lm_S} (h : lm_q108_61 sc (lm_cal sc d) (lm_rn sc d lm_m108.2.2.2.2.1 (lm_reg lm_m108.2.2.2.2.2)) x0 x2 x4  σ = some r) : lm_rn sc d lm_m108.2.2.2.2.1 (lm_reg lm_m108.2.2.2.2.2) (61, [(0, .ref x0), (2, .long x2), (4, .int x4)], []) σ = some r := lm_rn_of h
/-- LatticeSuiteModel.node, from 0 on -/
noncomputable def lm_q109_0 (sc : lm_H) (A : Nat → List Value → lm_M lm_R) (B : lm_F → lm_M lm_R) (x0 : Nat) (x1 : Int32) (x2 : Int32) (x3 : Nat) (x4 : Int32) : lm_M lm_R :=
  lm_if .ne x1 0 (lm_bind (lm_gR 4622 x0) fun v1 =>
  lm_bind (lm_aaR sc v1 x1) fun v2 =>
  lm_bind (lm_sel [(11, 109)] (some (.ref x0))) fun y3 =>
  lm_bind (lm_asV (A y3 [.ref x0, .int (x1 - (Int32.ofInt 1)), .int ((Int32.ofInt 2) * x2), .ref v2, .int (Int32.ofInt 0)])) fun _ =>
  lm_bind (lm_gI 4668 x0) fun v4 =>
  lm_bind (lm_sel [(11, 109)] (some (.ref x0))) fun y5 =>
  lm_bind (lm_asV (A y5 [.ref x0, .int (x1 - (Int32.ofInt 1)), .int (((Int32.ofInt 2) * x2) + (Int32.ofInt 1)), .ref v2, .int v4])) fun _ =>
  lm_bind (lm_sel [(11, 179)] (some (.ref x0))) fun y6 =>
  lm_bind (lm_asV (A y6 [.ref x0, .int (Int32.ofInt 2), .int (Int32.ofInt 0), .int x1, .int x2])) fun _ =>
  lm_bind (lm_gI 4668 x0) fun v7 =>
  lm_bind (lm_sel [(11, 180)] (some (.ref x0))) fun y8 =>
  lm_bind (lm_asV (A y8 [.ref x0, .ref v2, .int (Int32.ofInt 0), .int ((Int32.ofInt 2) * v7), .ref x3, .int x4])) fun _ =>
  lm_ret none) (lm_bind (lm_sel [(11, 178)] (some (.ref x0))) fun y9 =>
  lm_bind (lm_asV (A y9 [.ref x0, .int x2, .ref x3, .int x4])) fun _ =>
  lm_ret none)
set_option maxRecDepth 100000 in
theorem lm_e109_0 {sc : lm_H} {d : Nat} {x0 : Nat} {x1 : Int32} {x2 : Int32} {x3 : Nat} {x4 : Int32} {σ : lm_S} {r : Except Nat lm_R × lm_S} (h : lm_q109_0 sc (lm_cal sc d) (lm_rn sc d lm_m109.2.2.2.2.1 (lm_reg lm_m109.2.2.2.2.2)) x0 x1 x2 x3 x4  σ = some r) : lm_rn sc d lm_m109.2.2.2.2.1 (lm_reg lm_m109.2.2.2.2.2) (0, [(0, .ref x0), (1, .int x1), (2, .int x2), (3, .ref x3), (4, .int x4)], []) σ = some r := lm_rn_of h
/-- LatticeSuite.slhSign, from 0 on -/
noncomputable def lm_q110_0 (sc : lm_H) (A : Nat → List Value → lm_M lm_R) (B : lm_F → lm_M lm_R) (x0 : Nat) (x1 : Int32) (x2 : Int32) : lm_M lm_R :=
  lm_bind (lm_asV (A 132 [.int x1, .int (Int32.ofInt 0), .int (Int32.ofInt 11)])) fun _ =>
  lm_bind (lm_asV (A 132 [.int x2, .int (Int32.ofInt (-1)), .int (Int32.ofInt 12)])) fun _ =>
  lm_bind (lm_gR 26 x0) fun v1 =>
  lm_bind (lm_sel [(10, 176)] (some (.ref v1))) fun y2 =>
  lm_bind (lm_asV (A y2 [.ref v1, .int x1])) fun _ =>
  lm_bind (lm_gR 14 x0) fun v3 =>
  lm_bind (lm_sel [(4, 168)] (some (.ref v3))) fun y4 =>
  lm_bind (lm_asI (A y4 [.ref v3, .int x2])) fun v5 =>
  lm_bind (lm_asV (A 150 [.int v5])) fun _ =>
  lm_bind (lm_gR 2 x0) fun v6 =>
  lm_bind (lm_aaR sc v6 (Int32.ofInt 0)) fun v7 =>
  lm_bind (lm_gI 404 v7) fun v8 =>
  lm_bind (lm_gR 26 x0) fun v9 =>
  lm_bind (lm_gI 4016 v9) fun v10 =>
  lm_if .eq v8 v10 (B (64, [(0, .ref x0), (2, .int x2)], [])) (lm_bind (lm_gR 2 x0) fun v11 =>
  lm_bind (lm_aaR sc v11 (Int32.ofInt 0)) fun v12 =>
  lm_bind (lm_gI 404 v12) fun v13 =>
  lm_if .ne v13 0 (B (69, [(0, .ref x0), (2, .int x2)], [.int (Int32.ofInt 0)])) (B (64, [(0, .ref x0), (2, .int x2)], [])))
set_option maxRecDepth 100000 in
theorem lm_e110_0 {sc : lm_H} {d : Nat} {x0 : Nat} {x1 : Int32} {x2 : Int32} {σ : lm_S} {r : Except Nat lm_R × lm_S} (h : lm_q110_0 sc (lm_cal sc d) (lm_rn sc d lm_m110.2.2.2.2.1 (lm_reg lm_m110.2.2.2.2.2)) x0 x1 x2  σ = some r) : lm_rn sc d lm_m110.2.2.2.2.1 (lm_reg lm_m110.2.2.2.2.2) (0, [(0, .ref x0), (1, .int x1), (2, .int x2)], []) σ = some r := lm_rn_of h
/-- LatticeSuite.slhSign, from 64 on -/
noncomputable def lm_q110_64 (sc : lm_H) (A : Nat → List Value → lm_M lm_R) (B : lm_F → lm_M lm_R) (x0 : Nat) (x2 : Int32) : lm_M lm_R :=
  B (69, [(0, .ref x0), (2, .int x2)], [.int (Int32.ofInt 1)])
set_option maxRecDepth 100000 in
theorem lm_e110_64 {sc : lm_H} {d : Nat} {x0 : Nat} {x2 : Int32} {σ : lm_S} {r : Except Nat lm_R × lm_S} (h : lm_q110_64 sc (lm_cal sc d) (lm_rn sc d lm_m110.2.2.2.2.1 (lm_reg lm_m110.2.2.2.2.2)) x0 x2  σ = some r) : lm_rn sc d lm_m110.2.2.2.2.1 (lm_reg lm_m110.2.2.2.2.2) (64, [(0, .ref x0), (2, .int x2)], []) σ = some r := lm_rn_of h
/-- LatticeSuite.slhSign, from 69 on -/
noncomputable def lm_q110_69 (sc : lm_H) (A : Nat → List Value → lm_M lm_R) (B : lm_F → lm_M lm_R) (x0 : Nat) (x2 : Int32) (s0 : Int32) : lm_M lm_R :=
  lm_bind (lm_asV (A 150 [.int s0])) fun _ =>
  lm_bind (lm_gR 2 x0) fun v1 =>
  lm_bind (lm_aaR sc v1 (Int32.ofInt 2)) fun v2 =>
  lm_bind (lm_gI 404 v2) fun v3 =>
  lm_bind (lm_gR 26 x0) fun v4 =>
  lm_bind (lm_gI 4016 v4) fun v5 =>
  lm_if .ne v3 ((Int32.ofInt 4) * v5) (B (98, [(0, .ref x0), (2, .int x2)], [.int (Int32.ofInt 0)])) (B (98, [(0, .ref x0), (2, .int x2)], [.int (Int32.ofInt 1)]))
set_option maxRecDepth 100000 in
theorem lm_e110_69 {sc : lm_H} {d : Nat} {x0 : Nat} {x2 : Int32} {s0 : Int32} {σ : lm_S} {r : Except Nat lm_R × lm_S} (h : lm_q110_69 sc (lm_cal sc d) (lm_rn sc d lm_m110.2.2.2.2.1 (lm_reg lm_m110.2.2.2.2.2)) x0 x2 s0 σ = some r) : lm_rn sc d lm_m110.2.2.2.2.1 (lm_reg lm_m110.2.2.2.2.2) (69, [(0, .ref x0), (2, .int x2)], [.int s0]) σ = some r := lm_rn_of h
/-- LatticeSuite.slhSign, from 98 on -/
noncomputable def lm_q110_98 (sc : lm_H) (A : Nat → List Value → lm_M lm_R) (B : lm_F → lm_M lm_R) (x0 : Nat) (x2 : Int32) (s0 : Int32) : lm_M lm_R :=
  lm_bind (lm_asV (A 160 [.int s0])) fun _ =>
  lm_bind (lm_gR 14 x0) fun v1 =>
  lm_bind (lm_sel [(4, 170)] (some (.ref v1))) fun y2 =>
  lm_bind (lm_asV (A y2 [.ref v1, .int x2])) fun _ =>
  lm_bind (lm_gR 2 x0) fun v3 =>
  lm_bind (lm_aaR sc v3 (Int32.ofInt 5)) fun v4 =>
  lm_bind (lm_gR 26 x0) fun v5 =>
  lm_bind (lm_gR 2 x0) fun v6 =>
  lm_bind (lm_aaR sc v6 (Int32.ofInt 2)) fun v7 =>
  lm_bind (lm_gR 402 v7) fun v8 =>
  lm_bind (lm_gR 2 x0) fun v9 =>
  lm_bind (lm_aaR sc v9 (Int32.ofInt 0)) fun v10 =>
  lm_bind (lm_gR 14 x0) fun v11 =>
  lm_bind (lm_gR 402 v4) fun v12 =>
  lm_bind (lm_sel [(10, 181)] (some (.ref v5))) fun y13 =>
  lm_bind (lm_asV (A y13 [.ref v5, .ref v8, .ref v10, .ref v11, .ref v12])) fun _ =>
  lm_bind (lm_gR 26 x0) fun v14 =>
  lm_bind (lm_gR 402 v4) fun v15 =>
  lm_bind (lm_sel [(10, 182)] (some (.ref v14))) fun y16 =>
  lm_bind (lm_asV (A y16 [.ref v14, .ref v15])) fun _ =>
  lm_bind (lm_gR 26 x0) fun v17 =>
  lm_bind (lm_gR 402 v4) fun v18 =>
  lm_bind (lm_sel [(10, 183)] (some (.ref v17))) fun y19 =>
  lm_bind (lm_asV (A y19 [.ref v17, .ref v18])) fun _ =>
  lm_bind (lm_gR 26 x0) fun v20 =>
  lm_bind (lm_sel [(10, 184)] (some (.ref v20))) fun y21 =>
  lm_bind (lm_asI (A y21 [.ref v20])) fun v22 =>
  lm_bind (lm_putf 404 v4 (.int v22)) fun _ =>
  lm_bind (lm_gI 404 v4) fun v23 =>
  lm_ret (some (.int v23))
set_option maxRecDepth 100000 in
theorem lm_e110_98 {sc : lm_H} {d : Nat} {x0 : Nat} {x2 : Int32} {s0 : Int32} {σ : lm_S} {r : Except Nat lm_R × lm_S} (h : lm_q110_98 sc (lm_cal sc d) (lm_rn sc d lm_m110.2.2.2.2.1 (lm_reg lm_m110.2.2.2.2.2)) x0 x2 s0 σ = some r) : lm_rn sc d lm_m110.2.2.2.2.1 (lm_reg lm_m110.2.2.2.2.2) (98, [(0, .ref x0), (2, .int x2)], [.int s0]) σ = some r := lm_rn_of h
/-- LatticeSuiteModel.before, from 0 on -/
noncomputable def lm_q111_0 (sc : lm_H) (A : Nat → List Value → lm_M lm_R) (B : lm_F → lm_M lm_R) (x0 : Nat) (x1 : Int32) : lm_M lm_R :=
  lm_if .ge x1 (Int32.ofInt 1) (lm_bind (lm_sel [(11, 61)] (some (.ref x0))) fun y1 =>
  lm_bind (lm_asV (A y1 [.ref x0, .int x1])) fun _ =>
  lm_bind (lm_gR 4406 x0) fun v2 =>
  lm_bind (lm_aaR sc v2 (Int32.ofInt 3)) fun v3 =>
  lm_bind (lm_gR 4410 x0) fun v4 =>
  lm_bind (lm_iald sc v4 (Int32.ofInt 3)) fun v5 =>
  lm_bind (lm_sel [(11, 62)] (some (.ref x0))) fun y6 =>
  lm_bind (lm_asV (A y6 [.ref x0, .ref v3, .int (Int32.ofInt 0), .int v5])) fun _ =>
  lm_bind (lm_gR 4602 x0) fun v7 =>
  lm_bind (lm_asI (A 60 [.int x1])) fun v8 =>
  lm_bind (lm_sel [(11, 63)] (some (.ref x0))) fun y9 =>
  lm_bind (lm_asV (A y9 [.ref x0, .ref v7, .int (Int32.ofInt 0), .int v8])) fun _ =>
  lm_ret none) (lm_ret none)
set_option maxRecDepth 100000 in
theorem lm_e111_0 {sc : lm_H} {d : Nat} {x0 : Nat} {x1 : Int32} {σ : lm_S} {r : Except Nat lm_R × lm_S} (h : lm_q111_0 sc (lm_cal sc d) (lm_rn sc d lm_m111.2.2.2.2.1 (lm_reg lm_m111.2.2.2.2.2)) x0 x1  σ = some r) : lm_rn sc d lm_m111.2.2.2.2.1 (lm_reg lm_m111.2.2.2.2.2) (0, [(0, .ref x0), (1, .int x1)], []) σ = some r := lm_rn_of h
/-- LatticeSuiteModel.large, from 0 on -/
noncomputable def lm_q112_0 (sc : lm_H) (A : Nat → List Value → lm_M lm_R) (B : lm_F → lm_M lm_R) (x0 : Nat) : lm_M lm_R :=
  lm_bind (lm_gI 4668 x0) fun v1 =>
  lm_if .ne v1 (Int32.ofInt 16) (lm_ret (some (.int (Int32.ofInt 3)))) (lm_ret (some (.int (Int32.ofInt 1))))
set_option maxRecDepth 100000 in
theorem lm_e112_0 {sc : lm_H} {d : Nat} {x0 : Nat} {σ : lm_S} {r : Except Nat lm_R × lm_S} (h : lm_q112_0 sc (lm_cal sc d) (lm_rn sc d lm_m112.2.2.2.2.1 (lm_reg lm_m112.2.2.2.2.2)) x0  σ = some r) : lm_rn sc d lm_m112.2.2.2.2.1 (lm_reg lm_m112.2.2.2.2.2) (0, [(0, .ref x0)], []) σ = some r := lm_rn_of h
/-- LatticeSuiteModel.putSigned, from 0 on -/
noncomputable def lm_q113_0 (sc : lm_H) (A : Nat → List Value → lm_M lm_R) (B : lm_F → lm_M lm_R) (x0 : Nat) (x1 : Int32) : lm_M lm_R :=
  lm_if .lt x1 0 (B (44, [(0, .ref x0), (1, .int x1)], [])) (lm_if .ne x1 0 (B (14, [(0, .ref x0), (1, .int x1)], [.int (Int32.ofInt 1), .ref x0])) (B (14, [(0, .ref x0), (1, .int x1)], [.int (Int32.ofInt 0), .ref x0])))
set_option maxRecDepth 100000 in
theorem lm_e113_0 {sc : lm_H} {d : Nat} {x0 : Nat} {x1 : Int32} {σ : lm_S} {r : Except Nat lm_R × lm_S} (h : lm_q113_0 sc (lm_cal sc d) (lm_rn sc d lm_m113.2.2.2.2.1 (lm_reg lm_m113.2.2.2.2.2)) x0 x1  σ = some r) : lm_rn sc d lm_m113.2.2.2.2.1 (lm_reg lm_m113.2.2.2.2.2) (0, [(0, .ref x0), (1, .int x1)], []) σ = some r := lm_rn_of h
/-- LatticeSuiteModel.putSigned, from 44 on -/
noncomputable def lm_q113_44 (sc : lm_H) (A : Nat → List Value → lm_M lm_R) (B : lm_F → lm_M lm_R) (x0 : Nat) (x1 : Int32) : lm_M lm_R :=
  lm_if .le x1 0 (lm_bind (lm_gR 4406 x0) fun v1 =>
  lm_bind (lm_aaR sc v1 (Int32.ofInt 3)) fun v2 =>
  lm_bind (lm_gR 4410 x0) fun v3 =>
  lm_bind (lm_iald sc v3 (Int32.ofInt 3)) fun v4 =>
  lm_bind (lm_sel [(11, 62)] (some (.ref x0))) fun y5 =>
  lm_bind (lm_asV (A y5 [.ref x0, .ref v2, .int (Int32.ofInt 0), .int v4])) fun _ =>
  lm_ret none) (lm_bind (lm_sel [(11, 69)] (some (.ref x0))) fun y6 =>
  lm_bind (lm_asV (A y6 [.ref x0, .int (Int32.ofInt 6)])) fun _ =>
  lm_bind (lm_sel [(11, 69)] (some (.ref x0))) fun y7 =>
  lm_bind (lm_asV (A y7 [.ref x0, .int (Int32.ofInt 9)])) fun _ =>
  lm_bind (lm_sel [(11, 69)] (some (.ref x0))) fun y8 =>
  lm_bind (lm_asV (A y8 [.ref x0, .int (Int32.ofInt 96)])) fun _ =>
  lm_bind (lm_sel [(11, 69)] (some (.ref x0))) fun y9 =>
  lm_bind (lm_asV (A y9 [.ref x0, .int (Int32.ofInt 134)])) fun _ =>
  lm_bind (lm_sel [(11, 69)] (some (.ref x0))) fun y10 =>
  lm_bind (lm_asV (A y10 [.ref x0, .int (Int32.ofInt 72)])) fun _ =>
  lm_bind (lm_sel [(11, 69)] (some (.ref x0))) fun y11 =>
  lm_bind (lm_asV (A y11 [.ref x0, .int (Int32.ofInt 1)])) fun _ =>
  lm_bind (lm_sel [(11, 69)] (some (.ref x0))) fun y12 =>
  lm_bind (lm_asV (A y12 [.ref x0, .int (Int32.ofInt 101)])) fun _ =>
  lm_bind (lm_sel [(11, 69)] (some (.ref x0))) fun y13 =>
  lm_bind (lm_asV (A y13 [.ref x0, .int (Int32.ofInt 3)])) fun _ =>
  lm_bind (lm_sel [(11, 69)] (some (.ref x0))) fun y14 =>
  lm_bind (lm_asV (A y14 [.ref x0, .int (Int32.ofInt 4)])) fun _ =>
  lm_bind (lm_sel [(11, 69)] (some (.ref x0))) fun y15 =>
  lm_bind (lm_asV (A y15 [.ref x0, .int (Int32.ofInt 2)])) fun _ =>
  lm_bind (lm_sel [(11, 69)] (some (.ref x0))) fun y16 =>
  lm_bind (lm_asV (A y16 [.ref x0, .int x1])) fun _ =>
  lm_bind (lm_gR 4602 x0) fun v17 =>
  lm_bind (lm_asI (A 60 [.int x1])) fun v18 =>
  lm_bind (lm_sel [(11, 62)] (some (.ref x0))) fun y19 =>
  lm_bind (lm_asV (A y19 [.ref x0, .ref v17, .int (Int32.ofInt 0), .int v18])) fun _ =>
  lm_ret none)
set_option maxRecDepth 100000 in
theorem lm_e113_44 {sc : lm_H} {d : Nat} {x0 : Nat} {x1 : Int32} {σ : lm_S} {r : Except Nat lm_R × lm_S} (h : lm_q113_44 sc (lm_cal sc d) (lm_rn sc d lm_m113.2.2.2.2.1 (lm_reg lm_m113.2.2.2.2.2)) x0 x1  σ = some r) : lm_rn sc d lm_m113.2.2.2.2.1 (lm_reg lm_m113.2.2.2.2.2) (44, [(0, .ref x0), (1, .int x1)], []) σ = some r := lm_rn_of h
/-- LatticeSuiteModel.putSigned, from 14 on -/
noncomputable def lm_q113_14 (sc : lm_H) (A : Nat → List Value → lm_M lm_R) (B : lm_F → lm_M lm_R) (x0 : Nat) (x1 : Int32) (s0 : Int32) (s1 : Nat) : lm_M lm_R :=
  lm_bind (lm_sel [(11, 69)] (some (.ref s1))) fun y1 =>
  lm_bind (lm_asV (A y1 [.ref s1, .int s0])) fun _ =>
  lm_bind (lm_gR 4410 x0) fun v2 =>
  lm_bind (lm_iald sc v2 (Int32.ofInt 4)) fun v3 =>
  lm_bind (lm_sel [(11, 69)] (some (.ref x0))) fun y4 =>
  lm_bind (lm_asV (A y4 [.ref x0, .int v3])) fun _ =>
  lm_bind (lm_gR 4406 x0) fun v5 =>
  lm_bind (lm_aaR sc v5 (Int32.ofInt 4)) fun v6 =>
  lm_bind (lm_gR 4410 x0) fun v7 =>
  lm_bind (lm_iald sc v7 (Int32.ofInt 4)) fun v8 =>
  lm_bind (lm_sel [(11, 62)] (some (.ref x0))) fun y9 =>
  lm_bind (lm_asV (A y9 [.ref x0, .ref v6, .int (Int32.ofInt 0), .int v8])) fun _ =>
  B (44, [(0, .ref x0), (1, .int x1)], [])
set_option maxRecDepth 100000 in
theorem lm_e113_14 {sc : lm_H} {d : Nat} {x0 : Nat} {x1 : Int32} {s0 : Int32} {s1 : Nat} {σ : lm_S} {r : Except Nat lm_R × lm_S} (h : lm_q113_14 sc (lm_cal sc d) (lm_rn sc d lm_m113.2.2.2.2.1 (lm_reg lm_m113.2.2.2.2.2)) x0 x1 s0 s1 σ = some r) : lm_rn sc d lm_m113.2.2.2.2.1 (lm_reg lm_m113.2.2.2.2.2) (14, [(0, .ref x0), (1, .int x1)], [.int s0, .ref s1]) σ = some r := lm_rn_of h
/-- LatticeSuiteModel.digestTree, from 0 on -/
noncomputable def lm_q114_0 (sc : lm_H) (A : Nat → List Value → lm_M lm_R) (B : lm_F → lm_M lm_R) (x0 : Nat) (x1 : Nat) (x2 : Int32) (x3 : Int32) : lm_M lm_R :=
  lm_bind (lm_gI 4688 x0) fun v1 =>
  lm_bind (lm_gI 4684 x0) fun v2 =>
  lm_when (¬ (Int32.ofInt 8) = 0) inferInstance (lm_bind (lm_gI 4672 x0) fun v3 =>
  lm_bind (lm_gI 4680 x0) fun v4 =>
  lm_when (¬ (Int32.ofInt 8) = 0) inferInstance (lm_bind (lm_gI 4680 x0) fun v5 =>
  lm_when (¬ (Int32.ofInt 8) = 0) inferInstance (lm_bind (lm_sel [(11, 111)] (some (.ref x0))) fun y6 =>
  lm_bind (lm_asV (A y6 [.ref x0, .int x3])) fun _ =>
  lm_bind (lm_gI 4699 x0) fun v7 =>
  lm_if .eq v7 0 (lm_bind (lm_sel [(11, 112)] (some (.ref x0))) fun y8 =>
  lm_bind (lm_asI (A y8 [.ref x0])) fun v9 =>
  B (66, [(0, .ref x0), (1, .ref x1), (2, .int x2), (3, .int x3), (4, .int (((((v1 * v2) + (Int32.ofInt 7)) / (Int32.ofInt 8)) + (((v3 - v4) + (Int32.ofInt 7)) / (Int32.ofInt 8))) + ((v5 + (Int32.ofInt 7)) / (Int32.ofInt 8))))], [.int v9, .ref x0])) (B (66, [(0, .ref x0), (1, .ref x1), (2, .int x2), (3, .int x3), (4, .int (((((v1 * v2) + (Int32.ofInt 7)) / (Int32.ofInt 8)) + (((v3 - v4) + (Int32.ofInt 7)) / (Int32.ofInt 8))) + ((v5 + (Int32.ofInt 7)) / (Int32.ofInt 8))))], [.int (Int32.ofInt 12), .ref x0])))))
set_option maxRecDepth 100000 in
theorem lm_e114_0 {sc : lm_H} {d : Nat} {x0 : Nat} {x1 : Nat} {x2 : Int32} {x3 : Int32} {σ : lm_S} {r : Except Nat lm_R × lm_S} (h : lm_q114_0 sc (lm_cal sc d) (lm_rn sc d lm_m114.2.2.2.2.1 (lm_reg lm_m114.2.2.2.2.2)) x0 x1 x2 x3  σ = some r) : lm_rn sc d lm_m114.2.2.2.2.1 (lm_reg lm_m114.2.2.2.2.2) (0, [(0, .ref x0), (1, .ref x1), (2, .int x2), (3, .int x3)], []) σ = some r := lm_rn_of h
/-- LatticeSuiteModel.digestTree, from 66 on -/
noncomputable def lm_q114_66 (sc : lm_H) (A : Nat → List Value → lm_M lm_R) (B : lm_F → lm_M lm_R) (x0 : Nat) (x1 : Nat) (x2 : Int32) (x3 : Int32) (x4 : Int32) (s0 : Int32) (s1 : Nat) : lm_M lm_R :=
  lm_bind (lm_sel [(11, 61)] (some (.ref s1))) fun y1 =>
  lm_bind (lm_asV (A y1 [.ref s1, .int s0])) fun _ =>
  lm_bind (lm_gI 4668 x0) fun v2 =>
  lm_bind (lm_sel [(11, 62)] (some (.ref x0))) fun y3 =>
  lm_bind (lm_asV (A y3 [.ref x0, .ref x1, .int x2, .int v2])) fun _ =>
  lm_bind (lm_gR 4654 x0) fun v4 =>
  lm_bind (lm_gI 4668 x0) fun v5 =>
  lm_bind (lm_sel [(11, 62)] (some (.ref x0))) fun y6 =>
  lm_bind (lm_asV (A y6 [.ref x0, .ref v4, .int (Int32.ofInt 0), .int v5])) fun _ =>
  lm_bind (lm_gR 4666 x0) fun v7 =>
  lm_bind (lm_gI 4668 x0) fun v8 =>
  lm_bind (lm_sel [(11, 62)] (some (.ref x0))) fun y9 =>
  lm_bind (lm_asV (A y9 [.ref x0, .ref v7, .int (Int32.ofInt 0), .int v8])) fun _ =>
  lm_bind (lm_sel [(11, 113)] (some (.ref x0))) fun y10 =>
  lm_bind (lm_asV (A y10 [.ref x0, .int x3])) fun _ =>
  lm_bind (lm_gI 4699 x0) fun v11 =>
  lm_if .eq v11 0 (lm_bind (lm_sel [(11, 112)] (some (.ref x0))) fun y12 =>
  lm_bind (lm_asI (A y12 [.ref x0])) fun v13 =>
  lm_bind (lm_asI (A 60 [.int v13])) fun v14 =>
  lm_bind (lm_gR 4614 x0) fun v15 =>
  lm_bind (lm_sel [(11, 63)] (some (.ref x0))) fun y16 =>
  lm_bind (lm_asV (A y16 [.ref x0, .ref v15, .int (Int32.ofInt 0), .int v14])) fun _ =>
  lm_bind (lm_gR 4562 x0) fun v17 =>
  lm_bind (lm_gI 4668 x0) fun v18 =>
  lm_bind (lm_asV (A 75 [.ref x1, .int x2, .ref v17, .int (Int32.ofInt 0), .int v18])) fun _ =>
  lm_bind (lm_gR 4654 x0) fun v19 =>
  lm_bind (lm_gR 4562 x0) fun v20 =>
  lm_bind (lm_gI 4668 x0) fun v21 =>
  lm_bind (lm_gI 4668 x0) fun v22 =>
  lm_bind (lm_asV (A 75 [.ref v19, .int (Int32.ofInt 0), .ref v20, .int v21, .int v22])) fun _ =>
  lm_bind (lm_gR 4614 x0) fun v23 =>
  lm_bind (lm_gR 4562 x0) fun v24 =>
  lm_bind (lm_gI 4668 x0) fun v25 =>
  lm_bind (lm_asV (A 75 [.ref v23, .int (Int32.ofInt 0), .ref v24, .int ((Int32.ofInt 2) * v25), .int v14])) fun _ =>
  lm_bind (lm_sel [(11, 112)] (some (.ref x0))) fun y26 =>
  lm_bind (lm_asI (A y26 [.ref x0])) fun v27 =>
  lm_bind (lm_gR 4562 x0) fun v28 =>
  lm_bind (lm_gI 4668 x0) fun v29 =>
  lm_bind (lm_gR 4646 x0) fun v30 =>
  lm_bind (lm_sel [(11, 66)] (some (.ref x0))) fun y31 =>
  lm_bind (lm_asV (A y31 [.ref x0, .int v27, .ref v28, .int (((Int32.ofInt 2) * v29) + v14), .ref v30, .int (Int32.ofInt 0), .int x4])) fun _ =>
  lm_ret none) (lm_bind (lm_gR 4646 x0) fun v32 =>
  lm_bind (lm_sel [(11, 63)] (some (.ref x0))) fun y33 =>
  lm_bind (lm_asV (A y33 [.ref x0, .ref v32, .int (Int32.ofInt 0), .int x4])) fun _ =>
  lm_ret none)
set_option maxRecDepth 100000 in
theorem lm_e114_66 {sc : lm_H} {d : Nat} {x0 : Nat} {x1 : Nat} {x2 : Int32} {x3 : Int32} {x4 : Int32} {s0 : Int32} {s1 : Nat} {σ : lm_S} {r : Except Nat lm_R × lm_S} (h : lm_q114_66 sc (lm_cal sc d) (lm_rn sc d lm_m114.2.2.2.2.1 (lm_reg lm_m114.2.2.2.2.2)) x0 x1 x2 x3 x4 s0 s1 σ = some r) : lm_rn sc d lm_m114.2.2.2.2.1 (lm_reg lm_m114.2.2.2.2.2) (66, [(0, .ref x0), (1, .ref x1), (2, .int x2), (3, .int x3), (4, .int x4)], [.int s0, .ref s1]) σ = some r := lm_rn_of h
/-- LatticeSuiteModel.treeNumber, from 0 on -/
noncomputable def lm_q115_0 (sc : lm_H) (A : Nat → List Value → lm_M lm_R) (B : lm_F → lm_M lm_R) (x0 : Nat) : lm_M lm_R :=
  lm_bind (lm_gI 4688 x0) fun v1 =>
  lm_bind (lm_gI 4684 x0) fun v2 =>
  lm_when (¬ (Int32.ofInt 8) = 0) inferInstance (lm_bind (lm_gI 4672 x0) fun v3 =>
  lm_bind (lm_gI 4680 x0) fun v4 =>
  lm_when (¬ (Int32.ofInt 8) = 0) inferInstance (B (37, [(0, .ref x0), (1, .int (((v1 * v2) + (Int32.ofInt 7)) / (Int32.ofInt 8))), (2, .int (((v3 - v4) + (Int32.ofInt 7)) / (Int32.ofInt 8))), (3, .long (Int64.ofNat 0)), (5, .int (Int32.ofInt 0))], [])))
set_option maxRecDepth 100000 in
theorem lm_e115_0 {sc : lm_H} {d : Nat} {x0 : Nat} {σ : lm_S} {r : Except Nat lm_R × lm_S} (h : lm_q115_0 sc (lm_cal sc d) (lm_rn sc d lm_m115.2.2.2.2.1 (lm_reg lm_m115.2.2.2.2.2)) x0  σ = some r) : lm_rn sc d lm_m115.2.2.2.2.1 (lm_reg lm_m115.2.2.2.2.2) (0, [(0, .ref x0)], []) σ = some r := lm_rn_of h
/-- LatticeSuiteModel.treeNumber, from 37 on -/
noncomputable def lm_q115_37 (sc : lm_H) (A : Nat → List Value → lm_M lm_R) (B : lm_F → lm_M lm_R) (x0 : Nat) (x1 : Int32) (x2 : Int32) (x3 : Int64) (x5 : Int32) : lm_M lm_R :=
  lm_if .ge x5 x2 (lm_bind (lm_gI 4672 x0) fun v1 =>
  lm_bind (lm_gI 4680 x0) fun v2 =>
  lm_if .ne (v1 - v2) (Int32.ofInt 64) (lm_bind (lm_gI 4672 x0) fun v3 =>
  lm_bind (lm_gI 4680 x0) fun v4 =>
  lm_ret (some (.long (x3 &&& (((Int64.ofNat 1) <<< ((Int32.toInt64 (v3 - v4)) &&& 63)) - (Int64.ofNat 1)))))) (lm_ret (some (.long x3)))) (lm_bind (lm_gR 4646 x0) fun v5 =>
  lm_bind (lm_bald sc v5 (x1 + x5)) fun v6 =>
  B (37, [(0, .ref x0), (1, .int x1), (2, .int x2), (3, .long ((x3 <<< ((Int32.toInt64 (Int32.ofInt 8)) &&& 63)) ||| ((Int32.toInt64 v6) &&& (Int64.ofNat 255)))), (5, .int (x5 + Int32.ofInt 1))], []))
set_option maxRecDepth 100000 in
theorem lm_e115_37 {sc : lm_H} {d : Nat} {x0 : Nat} {x1 : Int32} {x2 : Int32} {x3 : Int64} {x5 : Int32} {σ : lm_S} {r : Except Nat lm_R × lm_S} (h : lm_q115_37 sc (lm_cal sc d) (lm_rn sc d lm_m115.2.2.2.2.1 (lm_reg lm_m115.2.2.2.2.2)) x0 x1 x2 x3 x5  σ = some r) : lm_rn sc d lm_m115.2.2.2.2.1 (lm_reg lm_m115.2.2.2.2.2) (37, [(0, .ref x0), (1, .int x1), (2, .int x2), (3, .long x3), (5, .int x5)], []) σ = some r := lm_rn_of h
/-- LatticeSuiteModel.pairNumber, from 0 on -/
noncomputable def lm_q116_0 (sc : lm_H) (A : Nat → List Value → lm_M lm_R) (B : lm_F → lm_M lm_R) (x0 : Nat) : lm_M lm_R :=
  lm_bind (lm_gI 4688 x0) fun v1 =>
  lm_bind (lm_gI 4684 x0) fun v2 =>
  lm_when (¬ (Int32.ofInt 8) = 0) inferInstance (lm_bind (lm_gI 4672 x0) fun v3 =>
  lm_bind (lm_gI 4680 x0) fun v4 =>
  lm_when (¬ (Int32.ofInt 8) = 0) inferInstance (lm_bind (lm_gI 4680 x0) fun v5 =>
  lm_when (¬ (Int32.ofInt 8) = 0) inferInstance (B (48, [(0, .ref x0), (1, .int ((((v1 * v2) + (Int32.ofInt 7)) / (Int32.ofInt 8)) + (((v3 - v4) + (Int32.ofInt 7)) / (Int32.ofInt 8)))), (2, .int ((v5 + (Int32.ofInt 7)) / (Int32.ofInt 8))), (3, .int (Int32.ofInt 0)), (4, .int (Int32.ofInt 0))], []))))
set_option maxRecDepth 100000 in
theorem lm_e116_0 {sc : lm_H} {d : Nat} {x0 : Nat} {σ : lm_S} {r : Except Nat lm_R × lm_S} (h : lm_q116_0 sc (lm_cal sc d) (lm_rn sc d lm_m116.2.2.2.2.1 (lm_reg lm_m116.2.2.2.2.2)) x0  σ = some r) : lm_rn sc d lm_m116.2.2.2.2.1 (lm_reg lm_m116.2.2.2.2.2) (0, [(0, .ref x0)], []) σ = some r := lm_rn_of h
/-- LatticeSuiteModel.pairNumber, from 48 on -/
noncomputable def lm_q116_48 (sc : lm_H) (A : Nat → List Value → lm_M lm_R) (B : lm_F → lm_M lm_R) (x0 : Nat) (x1 : Int32) (x2 : Int32) (x3 : Int32) (x4 : Int32) : lm_M lm_R :=
  lm_if .ge x4 x2 (lm_bind (lm_gI 4680 x0) fun v1 =>
  lm_ret (some (.int (x3 &&& (((Int32.ofInt 1) <<< (v1 &&& 31)) - (Int32.ofInt 1)))))) (lm_bind (lm_gR 4646 x0) fun v2 =>
  lm_bind (lm_bald sc v2 (x1 + x4)) fun v3 =>
  B (48, [(0, .ref x0), (1, .int x1), (2, .int x2), (3, .int ((x3 <<< ((Int32.ofInt 8) &&& 31)) ||| (v3 &&& (Int32.ofInt 255)))), (4, .int (x4 + Int32.ofInt 1))], []))
set_option maxRecDepth 100000 in
theorem lm_e116_48 {sc : lm_H} {d : Nat} {x0 : Nat} {x1 : Int32} {x2 : Int32} {x3 : Int32} {x4 : Int32} {σ : lm_S} {r : Except Nat lm_R × lm_S} (h : lm_q116_48 sc (lm_cal sc d) (lm_rn sc d lm_m116.2.2.2.2.1 (lm_reg lm_m116.2.2.2.2.2)) x0 x1 x2 x3 x4  σ = some r) : lm_rn sc d lm_m116.2.2.2.2.1 (lm_reg lm_m116.2.2.2.2.2) (48, [(0, .ref x0), (1, .int x1), (2, .int x2), (3, .int x3), (4, .int x4)], []) σ = some r := lm_rn_of h
/-- LatticeSuiteModel.signForest, from 0 on -/
noncomputable def lm_q117_0 (sc : lm_H) (A : Nat → List Value → lm_M lm_R) (B : lm_F → lm_M lm_R) (x0 : Nat) (x1 : Int32) (x2 : Nat) (x3 : Int32) : lm_M lm_R :=
  B (6, [(0, .ref x0), (1, .int x1), (2, .ref x2), (4, .int x3), (5, .int (Int32.ofInt 0))], [])
set_option maxRecDepth 100000 in
theorem lm_e117_0 {sc : lm_H} {d : Nat} {x0 : Nat} {x1 : Int32} {x2 : Nat} {x3 : Int32} {σ : lm_S} {r : Except Nat lm_R × lm_S} (h : lm_q117_0 sc (lm_cal sc d) (lm_rn sc d lm_m117.2.2.2.2.1 (lm_reg lm_m117.2.2.2.2.2)) x0 x1 x2 x3  σ = some r) : lm_rn sc d lm_m117.2.2.2.2.1 (lm_reg lm_m117.2.2.2.2.2) (0, [(0, .ref x0), (1, .int x1), (2, .ref x2), (3, .int x3)], []) σ = some r := lm_rn_of h
/-- LatticeSuiteModel.signForest, from 6 on -/
noncomputable def lm_q117_6 (sc : lm_H) (A : Nat → List Value → lm_M lm_R) (B : lm_F → lm_M lm_R) (x0 : Nat) (x1 : Int32) (x2 : Nat) (x4 : Int32) (x5 : Int32) : lm_M lm_R :=
  lm_bind (lm_gI 4688 x0) fun v1 =>
  lm_if .ge x5 v1 (lm_ret none) (lm_bind (lm_gI 4684 x0) fun v2 =>
  lm_bind (lm_sel [(11, 185)] (some (.ref x0))) fun y3 =>
  lm_bind (lm_asI (A y3 [.ref x0, .int x5])) fun v4 =>
  lm_bind (lm_sel [(11, 179)] (some (.ref x0))) fun y5 =>
  lm_bind (lm_asV (A y5 [.ref x0, .int (Int32.ofInt 6), .int x1, .int (Int32.ofInt 0), .int ((x5 <<< (v2 &&& 31)) + v4)])) fun _ =>
  lm_bind (lm_sel [(11, 186)] (some (.ref x0))) fun y6 =>
  lm_bind (lm_asV (A y6 [.ref x0, .ref x2, .int x4])) fun _ =>
  B (51, [(0, .ref x0), (1, .int x1), (2, .ref x2), (4, .int x4), (5, .int x5), (6, .int ((x5 <<< (v2 &&& 31)) + v4)), (7, .int (Int32.ofInt 0))], []))
set_option maxRecDepth 100000 in
theorem lm_e117_6 {sc : lm_H} {d : Nat} {x0 : Nat} {x1 : Int32} {x2 : Nat} {x4 : Int32} {x5 : Int32} {σ : lm_S} {r : Except Nat lm_R × lm_S} (h : lm_q117_6 sc (lm_cal sc d) (lm_rn sc d lm_m117.2.2.2.2.1 (lm_reg lm_m117.2.2.2.2.2)) x0 x1 x2 x4 x5  σ = some r) : lm_rn sc d lm_m117.2.2.2.2.1 (lm_reg lm_m117.2.2.2.2.2) (6, [(0, .ref x0), (1, .int x1), (2, .ref x2), (4, .int x4), (5, .int x5)], []) σ = some r := lm_rn_of h
/-- LatticeSuiteModel.signForest, from 51 on -/
noncomputable def lm_q117_51 (sc : lm_H) (A : Nat → List Value → lm_M lm_R) (B : lm_F → lm_M lm_R) (x0 : Nat) (x1 : Int32) (x2 : Nat) (x4 : Int32) (x5 : Int32) (x6 : Int32) (x7 : Int32) : lm_M lm_R :=
  lm_bind (lm_gI 4684 x0) fun v1 =>
  lm_if .ge x7 v1 (lm_bind (lm_gI 4684 x0) fun v2 =>
  lm_bind (lm_gI 4668 x0) fun v3 =>
  B (6, [(0, .ref x0), (1, .int x1), (2, .ref x2), (4, .int (x4 + (((Int32.ofInt 1) + v2) * v3))), (5, .int (x5 + Int32.ofInt 1))], [])) (lm_bind (lm_gI 4668 x0) fun v4 =>
  lm_bind (lm_sel [(11, 187)] (some (.ref x0))) fun y5 =>
  lm_bind (lm_asV (A y5 [.ref x0, .int x1, .int x7, .int ((x6 >>> (x7 &&& 31)) ^^^ (Int32.ofInt 1)), .ref x2, .int (x4 + (((Int32.ofInt 1) + x7) * v4))])) fun _ =>
  B (51, [(0, .ref x0), (1, .int x1), (2, .ref x2), (4, .int x4), (5, .int x5), (6, .int x6), (7, .int (x7 + Int32.ofInt 1))], []))
set_option maxRecDepth 100000 in
theorem lm_e117_51 {sc : lm_H} {d : Nat} {x0 : Nat} {x1 : Int32} {x2 : Nat} {x4 : Int32} {x5 : Int32} {x6 : Int32} {x7 : Int32} {σ : lm_S} {r : Except Nat lm_R × lm_S} (h : lm_q117_51 sc (lm_cal sc d) (lm_rn sc d lm_m117.2.2.2.2.1 (lm_reg lm_m117.2.2.2.2.2)) x0 x1 x2 x4 x5 x6 x7  σ = some r) : lm_rn sc d lm_m117.2.2.2.2.1 (lm_reg lm_m117.2.2.2.2.2) (51, [(0, .ref x0), (1, .int x1), (2, .ref x2), (4, .int x4), (5, .int x5), (6, .int x6), (7, .int x7)], []) σ = some r := lm_rn_of h
/-- LatticeSuiteModel.rootOfForest, from 0 on -/
noncomputable def lm_q118_0 (sc : lm_H) (A : Nat → List Value → lm_M lm_R) (B : lm_F → lm_M lm_R) (x0 : Nat) (x1 : Int32) (x2 : Nat) (x3 : Int32) : lm_M lm_R :=
  B (6, [(0, .ref x0), (1, .int x1), (2, .ref x2), (4, .int x3), (5, .int (Int32.ofInt 0))], [])
set_option maxRecDepth 100000 in
theorem lm_e118_0 {sc : lm_H} {d : Nat} {x0 : Nat} {x1 : Int32} {x2 : Nat} {x3 : Int32} {σ : lm_S} {r : Except Nat lm_R × lm_S} (h : lm_q118_0 sc (lm_cal sc d) (lm_rn sc d lm_m118.2.2.2.2.1 (lm_reg lm_m118.2.2.2.2.2)) x0 x1 x2 x3  σ = some r) : lm_rn sc d lm_m118.2.2.2.2.1 (lm_reg lm_m118.2.2.2.2.2) (0, [(0, .ref x0), (1, .int x1), (2, .ref x2), (3, .int x3)], []) σ = some r := lm_rn_of h
/-- LatticeSuiteModel.rootOfForest, from 6 on -/
noncomputable def lm_q118_6 (sc : lm_H) (A : Nat → List Value → lm_M lm_R) (B : lm_F → lm_M lm_R) (x0 : Nat) (x1 : Int32) (x2 : Nat) (x4 : Int32) (x5 : Int32) : lm_M lm_R :=
  lm_bind (lm_gI 4688 x0) fun v1 =>
  lm_if .ge x5 v1 (lm_bind (lm_sel [(11, 179)] (some (.ref x0))) fun y2 =>
  lm_bind (lm_asV (A y2 [.ref x0, .int (Int32.ofInt 4), .int x1, .int (Int32.ofInt 0), .int (Int32.ofInt 0)])) fun _ =>
  lm_bind (lm_gR 4630 x0) fun v3 =>
  lm_bind (lm_gI 4688 x0) fun v4 =>
  lm_bind (lm_gI 4668 x0) fun v5 =>
  lm_bind (lm_gR 4638 x0) fun v6 =>
  lm_bind (lm_sel [(11, 180)] (some (.ref x0))) fun y7 =>
  lm_bind (lm_asV (A y7 [.ref x0, .ref v3, .int (Int32.ofInt 0), .int (v4 * v5), .ref v6, .int (Int32.ofInt 0)])) fun _ =>
  lm_ret none) (lm_bind (lm_gI 4684 x0) fun v8 =>
  lm_bind (lm_sel [(11, 185)] (some (.ref x0))) fun y9 =>
  lm_bind (lm_asI (A y9 [.ref x0, .int x5])) fun v10 =>
  lm_bind (lm_sel [(11, 179)] (some (.ref x0))) fun y11 =>
  lm_bind (lm_asV (A y11 [.ref x0, .int (Int32.ofInt 3), .int x1, .int (Int32.ofInt 0), .int ((x5 <<< (v8 &&& 31)) + v10)])) fun _ =>
  lm_bind (lm_gI 4668 x0) fun v12 =>
  lm_bind (lm_gR 4638 x0) fun v13 =>
  lm_bind (lm_sel [(11, 180)] (some (.ref x0))) fun y14 =>
  lm_bind (lm_asV (A y14 [.ref x0, .ref x2, .int x4, .int v12, .ref v13, .int (Int32.ofInt 0)])) fun _ =>
  lm_bind (lm_gI 4684 x0) fun v15 =>
  lm_bind (lm_gI 4668 x0) fun v16 =>
  lm_bind (lm_sel [(11, 188)] (some (.ref x0))) fun y17 =>
  lm_bind (lm_asV (A y17 [.ref x0, .int (Int32.ofInt 3), .int x1, .int ((x5 <<< (v8 &&& 31)) + v10), .int v15, .ref x2, .int (x4 + v16)])) fun _ =>
  lm_bind (lm_gR 4638 x0) fun v18 =>
  lm_bind (lm_gR 4630 x0) fun v19 =>
  lm_bind (lm_gI 4668 x0) fun v20 =>
  lm_bind (lm_gI 4668 x0) fun v21 =>
  lm_bind (lm_asV (A 75 [.ref v18, .int (Int32.ofInt 0), .ref v19, .int (x5 * v20), .int v21])) fun _ =>
  lm_bind (lm_gI 4684 x0) fun v22 =>
  lm_bind (lm_gI 4668 x0) fun v23 =>
  B (6, [(0, .ref x0), (1, .int x1), (2, .ref x2), (4, .int (x4 + (((Int32.ofInt 1) + v22) * v23))), (5, .int (x5 + Int32.ofInt 1))], []))
set_option maxRecDepth 100000 in
theorem lm_e118_6 {sc : lm_H} {d : Nat} {x0 : Nat} {x1 : Int32} {x2 : Nat} {x4 : Int32} {x5 : Int32} {σ : lm_S} {r : Except Nat lm_R × lm_S} (h : lm_q118_6 sc (lm_cal sc d) (lm_rn sc d lm_m118.2.2.2.2.1 (lm_reg lm_m118.2.2.2.2.2)) x0 x1 x2 x4 x5  σ = some r) : lm_rn sc d lm_m118.2.2.2.2.1 (lm_reg lm_m118.2.2.2.2.2) (6, [(0, .ref x0), (1, .int x1), (2, .ref x2), (4, .int x4), (5, .int x5)], []) σ = some r := lm_rn_of h
/-- LatticeSuiteModel.signTree, from 0 on -/
noncomputable def lm_q119_0 (sc : lm_H) (A : Nat → List Value → lm_M lm_R) (B : lm_F → lm_M lm_R) (x0 : Nat) (x1 : Nat) (x2 : Int32) (x3 : Int32) (x4 : Nat) (x5 : Int32) : lm_M lm_R :=
  lm_bind (lm_sel [(11, 189)] (some (.ref x0))) fun y1 =>
  lm_bind (lm_asV (A y1 [.ref x0, .ref x1, .int x2])) fun _ =>
  B (9, [(0, .ref x0), (3, .int x3), (4, .ref x4), (5, .int x5), (6, .int (Int32.ofInt 0))], [])
set_option maxRecDepth 100000 in
theorem lm_e119_0 {sc : lm_H} {d : Nat} {x0 : Nat} {x1 : Nat} {x2 : Int32} {x3 : Int32} {x4 : Nat} {x5 : Int32} {σ : lm_S} {r : Except Nat lm_R × lm_S} (h : lm_q119_0 sc (lm_cal sc d) (lm_rn sc d lm_m119.2.2.2.2.1 (lm_reg lm_m119.2.2.2.2.2)) x0 x1 x2 x3 x4 x5  σ = some r) : lm_rn sc d lm_m119.2.2.2.2.1 (lm_reg lm_m119.2.2.2.2.2) (0, [(0, .ref x0), (1, .ref x1), (2, .int x2), (3, .int x3), (4, .ref x4), (5, .int x5)], []) σ = some r := lm_rn_of h
/-- LatticeSuiteModel.signTree, from 9 on -/
noncomputable def lm_q119_9 (sc : lm_H) (A : Nat → List Value → lm_M lm_R) (B : lm_F → lm_M lm_R) (x0 : Nat) (x3 : Int32) (x4 : Nat) (x5 : Int32) (x6 : Int32) : lm_M lm_R :=
  lm_bind (lm_gI 4692 x0) fun v1 =>
  lm_if .ge x6 v1 (B (79, [(0, .ref x0), (3, .int x3), (4, .ref x4), (5, .int x5), (6, .int (Int32.ofInt 0))], [])) (lm_bind (lm_sel [(11, 179)] (some (.ref x0))) fun y2 =>
  lm_bind (lm_asV (A y2 [.ref x0, .int (Int32.ofInt 5), .int x3, .int x6, .int (Int32.ofInt 0)])) fun _ =>
  lm_bind (lm_gI 4668 x0) fun v3 =>
  lm_bind (lm_sel [(11, 186)] (some (.ref x0))) fun y4 =>
  lm_bind (lm_asV (A y4 [.ref x0, .ref x4, .int (x5 + (x6 * v3))])) fun _ =>
  lm_bind (lm_gR 4650 x0) fun v5 =>
  lm_bind (lm_iald sc v5 x6) fun v6 =>
  lm_bind (lm_gI 4668 x0) fun v7 =>
  lm_bind (lm_sel [(11, 190)] (some (.ref x0))) fun y8 =>
  lm_bind (lm_asV (A y8 [.ref x0, .int x3, .int x6, .int (Int32.ofInt 0), .int v6, .ref x4, .int (x5 + (x6 * v7))])) fun _ =>
  B (9, [(0, .ref x0), (3, .int x3), (4, .ref x4), (5, .int x5), (6, .int (x6 + Int32.ofInt 1))], []))
set_option maxRecDepth 100000 in
theorem lm_e119_9 {sc : lm_H} {d : Nat} {x0 : Nat} {x3 : Int32} {x4 : Nat} {x5 : Int32} {x6 : Int32} {σ : lm_S} {r : Except Nat lm_R × lm_S} (h : lm_q119_9 sc (lm_cal sc d) (lm_rn sc d lm_m119.2.2.2.2.1 (lm_reg lm_m119.2.2.2.2.2)) x0 x3 x4 x5 x6  σ = some r) : lm_rn sc d lm_m119.2.2.2.2.1 (lm_reg lm_m119.2.2.2.2.2) (9, [(0, .ref x0), (3, .int x3), (4, .ref x4), (5, .int x5), (6, .int x6)], []) σ = some r := lm_rn_of h
/-- LatticeSuiteModel.signTree, from 79 on -/
noncomputable def lm_q119_79 (sc : lm_H) (A : Nat → List Value → lm_M lm_R) (B : lm_F → lm_M lm_R) (x0 : Nat) (x3 : Int32) (x4 : Nat) (x5 : Int32) (x6 : Int32) : lm_M lm_R :=
  lm_bind (lm_gI 4680 x0) fun v1 =>
  lm_if .ge x6 v1 (lm_ret none) (lm_bind (lm_gI 4692 x0) fun v2 =>
  lm_bind (lm_gI 4668 x0) fun v3 =>
  lm_bind (lm_sel [(11, 109)] (some (.ref x0))) fun y4 =>
  lm_bind (lm_asV (A y4 [.ref x0, .int x6, .int ((x3 >>> (x6 &&& 31)) ^^^ (Int32.ofInt 1)), .ref x4, .int (x5 + ((v2 + x6) * v3))])) fun _ =>
  B (79, [(0, .ref x0), (3, .int x3), (4, .ref x4), (5, .int x5), (6, .int (x6 + Int32.ofInt 1))], []))
set_option maxRecDepth 100000 in
theorem lm_e119_79 {sc : lm_H} {d : Nat} {x0 : Nat} {x3 : Int32} {x4 : Nat} {x5 : Int32} {x6 : Int32} {σ : lm_S} {r : Except Nat lm_R × lm_S} (h : lm_q119_79 sc (lm_cal sc d) (lm_rn sc d lm_m119.2.2.2.2.1 (lm_reg lm_m119.2.2.2.2.2)) x0 x3 x4 x5 x6  σ = some r) : lm_rn sc d lm_m119.2.2.2.2.1 (lm_reg lm_m119.2.2.2.2.2) (79, [(0, .ref x0), (3, .int x3), (4, .ref x4), (5, .int x5), (6, .int x6)], []) σ = some r := lm_rn_of h
/-- LatticeSuiteModel.rootOf, from 0 on -/
noncomputable def lm_q120_0 (sc : lm_H) (A : Nat → List Value → lm_M lm_R) (B : lm_F → lm_M lm_R) (x0 : Nat) (x1 : Int32) (x2 : Nat) (x3 : Int32) (x4 : Nat) (x5 : Int32) : lm_M lm_R :=
  lm_bind (lm_sel [(11, 189)] (some (.ref x0))) fun y1 =>
  lm_bind (lm_asV (A y1 [.ref x0, .ref x4, .int x5])) fun _ =>
  B (11, [(0, .ref x0), (1, .int x1), (2, .ref x2), (3, .int x3), (6, .int (Int32.ofInt 0))], [])
set_option maxRecDepth 100000 in
theorem lm_e120_0 {sc : lm_H} {d : Nat} {x0 : Nat} {x1 : Int32} {x2 : Nat} {x3 : Int32} {x4 : Nat} {x5 : Int32} {σ : lm_S} {r : Except Nat lm_R × lm_S} (h : lm_q120_0 sc (lm_cal sc d) (lm_rn sc d lm_m120.2.2.2.2.1 (lm_reg lm_m120.2.2.2.2.2)) x0 x1 x2 x3 x4 x5  σ = some r) : lm_rn sc d lm_m120.2.2.2.2.1 (lm_reg lm_m120.2.2.2.2.2) (0, [(0, .ref x0), (1, .int x1), (2, .ref x2), (3, .int x3), (4, .ref x4), (5, .int x5)], []) σ = some r := lm_rn_of h
/-- LatticeSuiteModel.rootOf, from 11 on -/
noncomputable def lm_q120_11 (sc : lm_H) (A : Nat → List Value → lm_M lm_R) (B : lm_F → lm_M lm_R) (x0 : Nat) (x1 : Int32) (x2 : Nat) (x3 : Int32) (x6 : Int32) : lm_M lm_R :=
  lm_bind (lm_gI 4692 x0) fun v1 =>
  lm_if .ge x6 v1 (lm_bind (lm_sel [(11, 179)] (some (.ref x0))) fun y2 =>
  lm_bind (lm_asV (A y2 [.ref x0, .int (Int32.ofInt 1), .int x1, .int (Int32.ofInt 0), .int (Int32.ofInt 0)])) fun _ =>
  lm_bind (lm_gR 4626 x0) fun v3 =>
  lm_bind (lm_gI 4692 x0) fun v4 =>
  lm_bind (lm_gI 4668 x0) fun v5 =>
  lm_bind (lm_gR 4638 x0) fun v6 =>
  lm_bind (lm_sel [(11, 180)] (some (.ref x0))) fun y7 =>
  lm_bind (lm_asV (A y7 [.ref x0, .ref v3, .int (Int32.ofInt 0), .int (v4 * v5), .ref v6, .int (Int32.ofInt 0)])) fun _ =>
  lm_bind (lm_gI 4680 x0) fun v8 =>
  lm_bind (lm_gI 4692 x0) fun v9 =>
  lm_bind (lm_gI 4668 x0) fun v10 =>
  lm_bind (lm_sel [(11, 188)] (some (.ref x0))) fun y11 =>
  lm_bind (lm_asV (A y11 [.ref x0, .int (Int32.ofInt 2), .int (Int32.ofInt 0), .int x1, .int v8, .ref x2, .int (x3 + (v9 * v10))])) fun _ =>
  lm_ret none) (lm_bind (lm_gI 4668 x0) fun v12 =>
  lm_bind (lm_gR 4626 x0) fun v13 =>
  lm_bind (lm_gI 4668 x0) fun v14 =>
  lm_bind (lm_gI 4668 x0) fun v15 =>
  lm_bind (lm_asV (A 75 [.ref x2, .int (x3 + (x6 * v12)), .ref v13, .int (x6 * v14), .int v15])) fun _ =>
  lm_bind (lm_gR 4650 x0) fun v16 =>
  lm_bind (lm_iald sc v16 x6) fun v17 =>
  lm_bind (lm_gR 4650 x0) fun v18 =>
  lm_bind (lm_iald sc v18 x6) fun v19 =>
  lm_bind (lm_gR 4626 x0) fun v20 =>
  lm_bind (lm_gI 4668 x0) fun v21 =>
  lm_bind (lm_sel [(11, 190)] (some (.ref x0))) fun y22 =>
  lm_bind (lm_asV (A y22 [.ref x0, .int x1, .int x6, .int v17, .int ((Int32.ofInt 15) - v19), .ref v20, .int (x6 * v21)])) fun _ =>
  B (11, [(0, .ref x0), (1, .int x1), (2, .ref x2), (3, .int x3), (6, .int (x6 + Int32.ofInt 1))], []))
set_option maxRecDepth 100000 in
theorem lm_e120_11 {sc : lm_H} {d : Nat} {x0 : Nat} {x1 : Int32} {x2 : Nat} {x3 : Int32} {x6 : Int32} {σ : lm_S} {r : Except Nat lm_R × lm_S} (h : lm_q120_11 sc (lm_cal sc d) (lm_rn sc d lm_m120.2.2.2.2.1 (lm_reg lm_m120.2.2.2.2.2)) x0 x1 x2 x3 x6  σ = some r) : lm_rn sc d lm_m120.2.2.2.2.1 (lm_reg lm_m120.2.2.2.2.2) (11, [(0, .ref x0), (1, .int x1), (2, .ref x2), (3, .int x3), (6, .int x6)], []) σ = some r := lm_rn_of h
