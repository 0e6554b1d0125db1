/-- LatticeSuite.slhVerify, from 0 on -/
noncomputable def lm_q121_0 (sc : lm_H) (A : Nat → List Value → lm_M lm_R) (B : lm_F → lm_M lm_R) (x0 : Nat) (x1 : Int32) (x2 : Int32) : lm_M lm_R :=
  lm_bind (lm_asV (A 132 [.int x1, .int (Int32.ofInt 0), .int (Int32.ofInt 11)])) fun _ =>
  lm_bind (lm_asV (A 132 [.int x2, .int (Int32.ofInt (-1)), .int (Int32.ofInt 12)])) fun _ =>
  lm_bind (lm_gR 26 x0) fun v1 =>
  lm_bind (lm_sel [(10, 176)] (some (.ref v1))) fun y2 =>
  lm_bind (lm_asV (A y2 [.ref v1, .int x1])) fun _ =>
  lm_bind (lm_gR 14 x0) fun v3 =>
  lm_bind (lm_sel [(4, 168)] (some (.ref v3))) fun y4 =>
  lm_bind (lm_asI (A y4 [.ref v3, .int x2])) fun v5 =>
  lm_bind (lm_asV (A 150 [.int v5])) fun _ =>
  lm_bind (lm_gR 2 x0) fun v6 =>
  lm_bind (lm_aaR sc v6 (Int32.ofInt 1)) fun v7 =>
  lm_bind (lm_gI 404 v7) fun v8 =>
  lm_bind (lm_gR 26 x0) fun v9 =>
  lm_bind (lm_gI 4016 v9) fun v10 =>
  lm_if .ne v8 ((Int32.ofInt 2) * v10) (B (59, [(0, .ref x0), (2, .int x2)], [.int (Int32.ofInt 0)])) (B (59, [(0, .ref x0), (2, .int x2)], [.int (Int32.ofInt 1)]))
set_option maxRecDepth 100000 in
theorem lm_e121_0 {sc : lm_H} {d : Nat} {x0 : Nat} {x1 : Int32} {x2 : Int32} {σ : lm_S} {r : Except Nat lm_R × lm_S} (h : lm_q121_0 sc (lm_cal sc d) (lm_rn sc d lm_m121.2.2.2.2.1 (lm_reg lm_m121.2.2.2.2.2)) x0 x1 x2  σ = some r) : lm_rn sc d lm_m121.2.2.2.2.1 (lm_reg lm_m121.2.2.2.2.2) (0, [(0, .ref x0), (1, .int x1), (2, .int x2)], []) σ = some r := lm_rn_of h
/-- LatticeSuite.slhVerify, from 59 on -/
noncomputable def lm_q121_59 (sc : lm_H) (A : Nat → List Value → lm_M lm_R) (B : lm_F → lm_M lm_R) (x0 : Nat) (x2 : Int32) (s0 : Int32) : lm_M lm_R :=
  lm_bind (lm_asV (A 160 [.int s0])) fun _ =>
  lm_bind (lm_gR 2 x0) fun v1 =>
  lm_bind (lm_aaR sc v1 (Int32.ofInt 5)) fun v2 =>
  lm_bind (lm_gI 404 v2) fun v3 =>
  lm_bind (lm_gR 26 x0) fun v4 =>
  lm_bind (lm_sel [(10, 184)] (some (.ref v4))) fun y5 =>
  lm_bind (lm_asI (A y5 [.ref v4])) fun v6 =>
  lm_if .eq v3 v6 (lm_bind (lm_gR 14 x0) fun v7 =>
  lm_bind (lm_sel [(4, 170)] (some (.ref v7))) fun y8 =>
  lm_bind (lm_asV (A y8 [.ref v7, .int x2])) fun _ =>
  lm_bind (lm_gR 26 x0) fun v9 =>
  lm_bind (lm_gR 2 x0) fun v10 =>
  lm_bind (lm_aaR sc v10 (Int32.ofInt 1)) fun v11 =>
  lm_bind (lm_gR 402 v11) fun v12 =>
  lm_bind (lm_gR 14 x0) fun v13 =>
  lm_bind (lm_gR 2 x0) fun v14 =>
  lm_bind (lm_aaR sc v14 (Int32.ofInt 5)) fun v15 =>
  lm_bind (lm_gR 402 v15) fun v16 =>
  lm_bind (lm_gR 2 x0) fun v17 =>
  lm_bind (lm_aaR sc v17 (Int32.ofInt 6)) fun v18 =>
  lm_bind (lm_sel [(10, 191)] (some (.ref v9))) fun y19 =>
  lm_bind (lm_asI (A y19 [.ref v9, .ref v12, .ref v13, .ref v16, .ref v18])) fun v20 =>
  lm_when (v20 = 0 ∨ v20 = 1) inferInstance (lm_ret (some (.int v20)))) (lm_when ((Int32.ofInt 0) = 0 ∨ (Int32.ofInt 0) = 1) inferInstance (lm_ret (some (.int (Int32.ofInt 0)))))
set_option maxRecDepth 100000 in
theorem lm_e121_59 {sc : lm_H} {d : Nat} {x0 : Nat} {x2 : Int32} {s0 : Int32} {σ : lm_S} {r : Except Nat lm_R × lm_S} (h : lm_q121_59 sc (lm_cal sc d) (lm_rn sc d lm_m121.2.2.2.2.1 (lm_reg lm_m121.2.2.2.2.2)) x0 x2 s0 σ = some r) : lm_rn sc d lm_m121.2.2.2.2.1 (lm_reg lm_m121.2.2.2.2.2) (59, [(0, .ref x0), (2, .int x2)], [.int s0]) σ = some r := lm_rn_of h
/-- LatticeSuite.slhNode, from 0 on -/
noncomputable def lm_q122_0 (sc : lm_H) (A : Nat → List Value → lm_M lm_R) (B : lm_F → lm_M lm_R) (x0 : Nat) (x1 : Int32) (x2 : Int32) (x3 : Int32) (x4 : Int32) (x5 : Int32) : lm_M lm_R :=
  lm_bind (lm_asV (A 132 [.int x1, .int (Int32.ofInt 0), .int (Int32.ofInt 11)])) fun _ =>
  lm_bind (lm_gR 26 x0) fun v1 =>
  lm_bind (lm_sel [(10, 176)] (some (.ref v1))) fun y2 =>
  lm_bind (lm_asV (A y2 [.ref v1, .int x1])) fun _ =>
  lm_bind (lm_gR 26 x0) fun v3 =>
  lm_bind (lm_gI 4020 v3) fun v4 =>
  lm_bind (lm_asV (A 132 [.int x2, .int (Int32.ofInt 0), .int (v4 - (Int32.ofInt 1))])) fun _ =>
  lm_bind (lm_asV (A 132 [.int x3, .int (Int32.ofInt 0), .int (Int32.ofInt 2147483647)])) fun _ =>
  lm_bind (lm_gR 26 x0) fun v5 =>
  lm_bind (lm_gI 4024 v5) fun v6 =>
  lm_bind (lm_asV (A 132 [.int x4, .int (Int32.ofInt 0), .int v6])) fun _ =>
  lm_bind (lm_gR 26 x0) fun v7 =>
  lm_bind (lm_gI 4024 v7) fun v8 =>
  lm_bind (lm_asV (A 132 [.int x5, .int (Int32.ofInt 0), .int (((Int32.ofInt 1) <<< ((v8 - x4) &&& 31)) - (Int32.ofInt 1))])) fun _ =>
  lm_bind (lm_gR 2 x0) fun v9 =>
  lm_bind (lm_aaR sc v9 (Int32.ofInt 2)) fun v10 =>
  lm_bind (lm_gI 404 v10) fun v11 =>
  lm_bind (lm_gR 26 x0) fun v12 =>
  lm_bind (lm_gI 4016 v12) fun v13 =>
  lm_if .ne v11 ((Int32.ofInt 4) * v13) (B (95, [(0, .ref x0), (2, .int x2), (3, .int x3), (4, .int x4), (5, .int x5)], [.int (Int32.ofInt 0)])) (B (95, [(0, .ref x0), (2, .int x2), (3, .int x3), (4, .int x4), (5, .int x5)], [.int (Int32.ofInt 1)]))
set_option maxRecDepth 100000 in
theorem lm_e122_0 {sc : lm_H} {d : Nat} {x0 : Nat} {x1 : Int32} {x2 : Int32} {x3 : Int32} {x4 : Int32} {x5 : Int32} {σ : lm_S} {r : Except Nat lm_R × lm_S} (h : lm_q122_0 sc (lm_cal sc d) (lm_rn sc d lm_m122.2.2.2.2.1 (lm_reg lm_m122.2.2.2.2.2)) x0 x1 x2 x3 x4 x5  σ = some r) : lm_rn sc d lm_m122.2.2.2.2.1 (lm_reg lm_m122.2.2.2.2.2) (0, [(0, .ref x0), (1, .int x1), (2, .int x2), (3, .int x3), (4, .int x4), (5, .int x5)], []) σ = some r := lm_rn_of h
/-- LatticeSuite.slhNode, from 95 on -/
noncomputable def lm_q122_95 (sc : lm_H) (A : Nat → List Value → lm_M lm_R) (B : lm_F → lm_M lm_R) (x0 : Nat) (x2 : Int32) (x3 : Int32) (x4 : Int32) (x5 : Int32) (s0 : Int32) : lm_M lm_R :=
  lm_bind (lm_asV (A 160 [.int s0])) fun _ =>
  lm_bind (lm_gR 26 x0) fun v1 =>
  lm_bind (lm_gR 2 x0) fun v2 =>
  lm_bind (lm_aaR sc v2 (Int32.ofInt 2)) fun v3 =>
  lm_bind (lm_gR 402 v3) fun v4 =>
  lm_bind (lm_sel [(10, 192)] (some (.ref v1))) fun y5 =>
  lm_bind (lm_asV (A y5 [.ref v1, .ref v4])) fun _ =>
  lm_bind (lm_gR 26 x0) fun v6 =>
  lm_bind (lm_sel [(10, 193)] (some (.ref v6))) fun y7 =>
  lm_bind (lm_asV (A y7 [.ref v6, .int x2, .long (Int32.toInt64 x3)])) fun _ =>
  lm_bind (lm_gR 26 x0) fun v8 =>
  lm_bind (lm_gR 2 x0) fun v9 =>
  lm_bind (lm_aaR sc v9 (Int32.ofInt 6)) fun v10 =>
  lm_bind (lm_gR 402 v10) fun v11 =>
  lm_bind (lm_sel [(10, 194)] (some (.ref v8))) fun y12 =>
  lm_bind (lm_asV (A y12 [.ref v8, .int (Int32.ofInt 2), .int (Int32.ofInt 0), .int x4, .int x5, .ref v11, .int (Int32.ofInt 0)])) fun _ =>
  lm_bind (lm_gR 2 x0) fun v13 =>
  lm_bind (lm_aaR sc v13 (Int32.ofInt 6)) fun v14 =>
  lm_bind (lm_gR 26 x0) fun v15 =>
  lm_bind (lm_gI 4016 v15) fun v16 =>
  lm_bind (lm_putf 404 v14 (.int v16)) fun _ =>
  lm_bind (lm_gR 2 x0) fun v17 =>
  lm_bind (lm_aaR sc v17 (Int32.ofInt 6)) fun v18 =>
  lm_bind (lm_gR 402 v18) fun v19 =>
  lm_bind (lm_gR 2 x0) fun v20 =>
  lm_bind (lm_aaR sc v20 (Int32.ofInt 2)) fun v21 =>
  lm_bind (lm_gR 402 v21) fun v22 =>
  lm_bind (lm_gR 26 x0) fun v23 =>
  lm_bind (lm_gI 4016 v23) fun v24 =>
  lm_bind (lm_gR 26 x0) fun v25 =>
  lm_bind (lm_gI 4016 v25) fun v26 =>
  lm_bind (lm_asI (A 136 [.ref v19, .int (Int32.ofInt 0), .ref v22, .int ((Int32.ofInt 3) * v24), .int v26])) fun v27 =>
  lm_if .eq v27 0 (lm_ret (some (.int (Int32.ofInt 0)))) (lm_ret (some (.int (Int32.ofInt 1))))
set_option maxRecDepth 100000 in
theorem lm_e122_95 {sc : lm_H} {d : Nat} {x0 : Nat} {x2 : Int32} {x3 : Int32} {x4 : Int32} {x5 : Int32} {s0 : Int32} {σ : lm_S} {r : Except Nat lm_R × lm_S} (h : lm_q122_95 sc (lm_cal sc d) (lm_rn sc d lm_m122.2.2.2.2.1 (lm_reg lm_m122.2.2.2.2.2)) x0 x2 x3 x4 x5 s0 σ = some r) : lm_rn sc d lm_m122.2.2.2.2.1 (lm_reg lm_m122.2.2.2.2.2) (95, [(0, .ref x0), (2, .int x2), (3, .int x3), (4, .int x4), (5, .int x5)], [.int s0]) σ = some r := lm_rn_of h
/-- LatticeSuite$Sponge.<init>, from 0 on -/
noncomputable def lm_q123_0 (sc : lm_H) (A : Nat → List Value → lm_M lm_R) (B : lm_F → lm_M lm_R) (x0 : Nat) : lm_M lm_R :=
  lm_bind (lm_sel [(5, 195), (6, 195), (7, 195)] (some (.ref x0))) fun y1 =>
  lm_bind (lm_asV (A y1 [.ref x0, .int (Int32.ofInt 168)])) fun _ =>
  lm_bind (lm_newa .long (Int32.ofInt 25)) fun q2 =>
  lm_bind (lm_putf 2030 x0 (.ref q2)) fun _ =>
  lm_bind (lm_newa .long (Int32.ofInt 25)) fun q3 =>
  lm_bind (lm_putf 2034 x0 (.ref q3)) fun _ =>
  lm_bind (lm_newa .long (Int32.ofInt 25)) fun q4 =>
  lm_bind (lm_putf 2038 x0 (.ref q4)) fun _ =>
  lm_ret none
set_option maxRecDepth 100000 in
theorem lm_e123_0 {sc : lm_H} {d : Nat} {x0 : Nat} {σ : lm_S} {r : Except Nat lm_R × lm_S} (h : lm_q123_0 sc (lm_cal sc d) (lm_rn sc d lm_m123.2.2.2.2.1 (lm_reg lm_m123.2.2.2.2.2)) x0  σ = some r) : lm_rn sc d lm_m123.2.2.2.2.1 (lm_reg lm_m123.2.2.2.2.2) (0, [(0, .ref x0)], []) σ = some r := lm_rn_of h
/-- LatticeSuite$Sha256.<init>, from 0 on -/
noncomputable def lm_q124_0 (sc : lm_H) (A : Nat → List Value → lm_M lm_R) (B : lm_F → lm_M lm_R) (x0 : Nat) : lm_M lm_R :=
  lm_bind (lm_sel [(5, 195), (6, 195), (7, 195)] (some (.ref x0))) fun y1 =>
  lm_bind (lm_asV (A y1 [.ref x0, .int (Int32.ofInt 64)])) fun _ =>
  lm_bind (lm_newa .int (Int32.ofInt 8)) fun q2 =>
  lm_bind (lm_putf 2430 x0 (.ref q2)) fun _ =>
  lm_bind (lm_newa .int (Int32.ofInt 8)) fun q3 =>
  lm_bind (lm_putf 2434 x0 (.ref q3)) fun _ =>
  lm_bind (lm_newa .int (Int32.ofInt 64)) fun q4 =>
  lm_bind (lm_putf 2438 x0 (.ref q4)) fun _ =>
  lm_ret none
set_option maxRecDepth 100000 in
theorem lm_e124_0 {sc : lm_H} {d : Nat} {x0 : Nat} {σ : lm_S} {r : Except Nat lm_R × lm_S} (h : lm_q124_0 sc (lm_cal sc d) (lm_rn sc d lm_m124.2.2.2.2.1 (lm_reg lm_m124.2.2.2.2.2)) x0  σ = some r) : lm_rn sc d lm_m124.2.2.2.2.1 (lm_reg lm_m124.2.2.2.2.2) (0, [(0, .ref x0)], []) σ = some r := lm_rn_of h
/-- LatticeSuite$Sha512.<init>, from 0 on -/
noncomputable def lm_q125_0 (sc : lm_H) (A : Nat → List Value → lm_M lm_R) (B : lm_F → lm_M lm_R) (x0 : Nat) : lm_M lm_R :=
  lm_bind (lm_sel [(5, 195), (6, 195), (7, 195)] (some (.ref x0))) fun y1 =>
  lm_bind (lm_asV (A y1 [.ref x0, .int (Int32.ofInt 128)])) fun _ =>
  lm_bind (lm_newa .long (Int32.ofInt 8)) fun q2 =>
  lm_bind (lm_putf 2830 x0 (.ref q2)) fun _ =>
  lm_bind (lm_newa .long (Int32.ofInt 8)) fun q3 =>
  lm_bind (lm_putf 2834 x0 (.ref q3)) fun _ =>
  lm_bind (lm_newa .long (Int32.ofInt 80)) fun q4 =>
  lm_bind (lm_putf 2838 x0 (.ref q4)) fun _ =>
  lm_ret none
set_option maxRecDepth 100000 in
theorem lm_e125_0 {sc : lm_H} {d : Nat} {x0 : Nat} {σ : lm_S} {r : Except Nat lm_R × lm_S} (h : lm_q125_0 sc (lm_cal sc d) (lm_rn sc d lm_m125.2.2.2.2.1 (lm_reg lm_m125.2.2.2.2.2)) x0  σ = some r) : lm_rn sc d lm_m125.2.2.2.2.1 (lm_reg lm_m125.2.2.2.2.2) (0, [(0, .ref x0)], []) σ = some r := lm_rn_of h
/-- LatticeSuite$Bits.turned, from 0 on -/
noncomputable def lm_q126_0 (sc : lm_H) (A : Nat → List Value → lm_M lm_R) (B : lm_F → lm_M lm_R) (x0 : Int32) (x1 : Int32) : lm_M lm_R :=
  lm_bind (lm_asI (A 196 [.int x0])) fun v1 =>
  lm_ret (some (.int (lm_us v1 ((Int32.ofInt 32) - x1))))
set_option maxRecDepth 100000 in
theorem lm_e126_0 {sc : lm_H} {d : Nat} {x0 : Int32} {x1 : Int32} {σ : lm_S} {r : Except Nat lm_R × lm_S} (h : lm_q126_0 sc (lm_cal sc d) (lm_rn sc d lm_m126.2.2.2.2.1 (lm_reg lm_m126.2.2.2.2.2)) x0 x1  σ = some r) : lm_rn sc d lm_m126.2.2.2.2.1 (lm_reg lm_m126.2.2.2.2.2) (0, [(0, .int x0), (1, .int x1)], []) σ = some r := lm_rn_of h
/-- LatticeSuiteModel.prime, from 0 on -/
noncomputable def lm_q127_0 (sc : lm_H) (A : Nat → List Value → lm_M lm_R) (B : lm_F → lm_M lm_R) (x0 : Int32) : lm_M lm_R :=
  B (2, [(0, .int x0), (1, .int (Int32.ofInt 2))], [])
set_option maxRecDepth 100000 in
theorem lm_e127_0 {sc : lm_H} {d : Nat} {x0 : Int32} {σ : lm_S} {r : Except Nat lm_R × lm_S} (h : lm_q127_0 sc (lm_cal sc d) (lm_rn sc d lm_m127.2.2.2.2.1 (lm_reg lm_m127.2.2.2.2.2)) x0  σ = some r) : lm_rn sc d lm_m127.2.2.2.2.1 (lm_reg lm_m127.2.2.2.2.2) (0, [(0, .int x0)], []) σ = some r := lm_rn_of h
/-- LatticeSuiteModel.prime, from 2 on -/
noncomputable def lm_q127_2 (sc : lm_H) (A : Nat → List Value → lm_M lm_R) (B : lm_F → lm_M lm_R) (x0 : Int32) (x1 : Int32) : lm_M lm_R :=
  lm_if .gt (x1 * x1) x0 (lm_when ((Int32.ofInt 1) = 0 ∨ (Int32.ofInt 1) = 1) inferInstance (lm_ret (some (.int (Int32.ofInt 1))))) (lm_when (¬ x1 = 0) inferInstance (lm_if .ne (lm_rem x0 x1) 0 (B (2, [(0, .int x0), (1, .int (x1 + Int32.ofInt 1))], [])) (lm_when ((Int32.ofInt 0) = 0 ∨ (Int32.ofInt 0) = 1) inferInstance (lm_ret (some (.int (Int32.ofInt 0)))))))
set_option maxRecDepth 100000 in
theorem lm_e127_2 {sc : lm_H} {d : Nat} {x0 : Int32} {x1 : Int32} {σ : lm_S} {r : Except Nat lm_R × lm_S} (h : lm_q127_2 sc (lm_cal sc d) (lm_rn sc d lm_m127.2.2.2.2.1 (lm_reg lm_m127.2.2.2.2.2)) x0 x1  σ = some r) : lm_rn sc d lm_m127.2.2.2.2.1 (lm_reg lm_m127.2.2.2.2.2) (2, [(0, .int x0), (1, .int x1)], []) σ = some r := lm_rn_of h
/-- LatticeSuiteModel.root, from 0 on -/
noncomputable def lm_q128_0 (sc : lm_H) (A : Nat → List Value → lm_M lm_R) (B : lm_F → lm_M lm_R) (x0 : Nat) (x1 : Int32) (x2 : Int32) : lm_M lm_R :=
  B (2, [(0, .ref x0), (1, .int x1), (2, .int x2), (3, .int (Int32.ofInt 1))], [])
set_option maxRecDepth 100000 in
theorem lm_e128_0 {sc : lm_H} {d : Nat} {x0 : Nat} {x1 : Int32} {x2 : Int32} {σ : lm_S} {r : Except Nat lm_R × lm_S} (h : lm_q128_0 sc (lm_cal sc d) (lm_rn sc d lm_m128.2.2.2.2.1 (lm_reg lm_m128.2.2.2.2.2)) x0 x1 x2  σ = some r) : lm_rn sc d lm_m128.2.2.2.2.1 (lm_reg lm_m128.2.2.2.2.2) (0, [(0, .ref x0), (1, .int x1), (2, .int x2)], []) σ = some r := lm_rn_of h
/-- LatticeSuiteModel.root, from 2 on -/
noncomputable def lm_q128_2 (sc : lm_H) (A : Nat → List Value → lm_M lm_R) (B : lm_F → lm_M lm_R) (x0 : Nat) (x1 : Int32) (x2 : Int32) (x3 : Int32) : lm_M lm_R :=
  lm_bind (lm_sel [(11, 197)] (some (.ref x0))) fun y1 =>
  lm_bind (lm_asI (A y1 [.ref x0, .int (x3 + (Int32.ofInt 1)), .long (Int64.ofNat 0), .int x2, .int x1])) fun v2 =>
  lm_if .ne v2 0 (B (28, [(0, .ref x0), (1, .int x1), (2, .int x2), (3, .int x3), (4, .long (Int64.ofNat 0)), (6, .int (Int32.ofInt 63))], [])) (B (2, [(0, .ref x0), (1, .int x1), (2, .int x2), (3, .int (x3 + Int32.ofInt 1))], []))
set_option maxRecDepth 100000 in
theorem lm_e128_2 {sc : lm_H} {d : Nat} {x0 : Nat} {x1 : Int32} {x2 : Int32} {x3 : Int32} {σ : lm_S} {r : Except Nat lm_R × lm_S} (h : lm_q128_2 sc (lm_cal sc d) (lm_rn sc d lm_m128.2.2.2.2.1 (lm_reg lm_m128.2.2.2.2.2)) x0 x1 x2 x3  σ = some r) : lm_rn sc d lm_m128.2.2.2.2.1 (lm_reg lm_m128.2.2.2.2.2) (2, [(0, .ref x0), (1, .int x1), (2, .int x2), (3, .int x3)], []) σ = some r := lm_rn_of h
/-- LatticeSuiteModel.root, from 28 on -/
noncomputable def lm_q128_28 (sc : lm_H) (A : Nat → List Value → lm_M lm_R) (B : lm_F → lm_M lm_R) (x0 : Nat) (x1 : Int32) (x2 : Int32) (x3 : Int32) (x4 : Int64) (x6 : Int32) : lm_M lm_R :=
  lm_if .lt x6 0 (lm_ret (some (.long x4))) (lm_bind (lm_sel [(11, 197)] (some (.ref x0))) fun y1 =>
  lm_bind (lm_asI (A y1 [.ref x0, .int x3, .long (x4 ||| ((Int64.ofNat 1) <<< ((Int32.toInt64 x6) &&& 63))), .int x2, .int x1])) fun v2 =>
  lm_if .ne v2 0 (B (59, [(0, .ref x0), (1, .int x1), (2, .int x2), (3, .int x3), (4, .long x4), (6, .int x6)], [])) (B (59, [(0, .ref x0), (1, .int x1), (2, .int x2), (3, .int x3), (4, .long (x4 ||| ((Int64.ofNat 1) <<< ((Int32.toInt64 x6) &&& 63)))), (6, .int x6)], [])))
set_option maxRecDepth 100000 in
theorem lm_e128_28 {sc : lm_H} {d : Nat} {x0 : Nat} {x1 : Int32} {x2 : Int32} {x3 : Int32} {x4 : Int64} {x6 : Int32} {σ : lm_S} {r : Except Nat lm_R × lm_S} (h : lm_q128_28 sc (lm_cal sc d) (lm_rn sc d lm_m128.2.2.2.2.1 (lm_reg lm_m128.2.2.2.2.2)) x0 x1 x2 x3 x4 x6  σ = some r) : lm_rn sc d lm_m128.2.2.2.2.1 (lm_reg lm_m128.2.2.2.2.2) (28, [(0, .ref x0), (1, .int x1), (2, .int x2), (3, .int x3), (4, .long x4), (6, .int x6)], []) σ = some r := lm_rn_of h
/-- LatticeSuiteModel.root, from 59 on -/
noncomputable def lm_q128_59 (sc : lm_H) (A : Nat → List Value → lm_M lm_R) (B : lm_F → lm_M lm_R) (x0 : Nat) (x1 : Int32) (x2 : Int32) (x3 : Int32) (x4 : Int64) (x6 : Int32) : lm_M lm_R :=
  B (28, [(0, .ref x0), (1, .int x1), (2, .int x2), (3, .int x3), (4, .long x4), (6, .int (x6 + Int32.ofInt (-1)))], [])
set_option maxRecDepth 100000 in
theorem lm_e128_59 {sc : lm_H} {d : Nat} {x0 : Nat} {x1 : Int32} {x2 : Int32} {x3 : Int32} {x4 : Int64} {x6 : Int32} {σ : lm_S} {r : Except Nat lm_R × lm_S} (h : lm_q128_59 sc (lm_cal sc d) (lm_rn sc d lm_m128.2.2.2.2.1 (lm_reg lm_m128.2.2.2.2.2)) x0 x1 x2 x3 x4 x6  σ = some r) : lm_rn sc d lm_m128.2.2.2.2.1 (lm_reg lm_m128.2.2.2.2.2) (59, [(0, .ref x0), (1, .int x1), (2, .int x2), (3, .int x3), (4, .long x4), (6, .int x6)], []) σ = some r := lm_rn_of h
/-- LatticeSuiteModel.bit, from 0 on -/
noncomputable def lm_q129_0 (sc : lm_H) (A : Nat → List Value → lm_M lm_R) (B : lm_F → lm_M lm_R) (x0 : Int32) : lm_M lm_R :=
  B (4, [(0, .int x0), (1, .int (Int32.ofInt 1)), (2, .int (Int32.ofInt 0))], [])
set_option maxRecDepth 100000 in
theorem lm_e129_0 {sc : lm_H} {d : Nat} {x0 : Int32} {σ : lm_S} {r : Except Nat lm_R × lm_S} (h : lm_q129_0 sc (lm_cal sc d) (lm_rn sc d lm_m129.2.2.2.2.1 (lm_reg lm_m129.2.2.2.2.2)) x0  σ = some r) : lm_rn sc d lm_m129.2.2.2.2.1 (lm_reg lm_m129.2.2.2.2.2) (0, [(0, .int x0)], []) σ = some r := lm_rn_of h
/-- LatticeSuiteModel.bit, from 4 on -/
noncomputable def lm_q129_4 (sc : lm_H) (A : Nat → List Value → lm_M lm_R) (B : lm_F → lm_M lm_R) (x0 : Int32) (x1 : Int32) (x2 : Int32) : lm_M lm_R :=
  lm_when (¬ (Int32.ofInt 255) = 0) inferInstance (lm_if .ge x2 (lm_rem x0 (Int32.ofInt 255)) (lm_ret (some (.int (x1 &&& (Int32.ofInt 1))))) (lm_if .ge x1 (Int32.ofInt 128) (B (36, [(0, .int x0), (2, .int x2)], [.int ((((Int32.ofInt 2) * x1) &&& (Int32.ofInt 255)) ^^^ (Int32.ofInt 113))])) (B (36, [(0, .int x0), (2, .int x2)], [.int ((Int32.ofInt 2) * x1)]))))
set_option maxRecDepth 100000 in
theorem lm_e129_4 {sc : lm_H} {d : Nat} {x0 : Int32} {x1 : Int32} {x2 : Int32} {σ : lm_S} {r : Except Nat lm_R × lm_S} (h : lm_q129_4 sc (lm_cal sc d) (lm_rn sc d lm_m129.2.2.2.2.1 (lm_reg lm_m129.2.2.2.2.2)) x0 x1 x2  σ = some r) : lm_rn sc d lm_m129.2.2.2.2.1 (lm_reg lm_m129.2.2.2.2.2) (4, [(0, .int x0), (1, .int x1), (2, .int x2)], []) σ = some r := lm_rn_of h
/-- LatticeSuiteModel.bit, from 36 on -/
noncomputable def lm_q129_36 (sc : lm_H) (A : Nat → List Value → lm_M lm_R) (B : lm_F → lm_M lm_R) (x0 : Int32) (x2 : Int32) (s0 : Int32) : lm_M lm_R :=
  B (4, [(0, .int x0), (1, .int s0), (2, .int (x2 + Int32.ofInt 1))], [])
set_option maxRecDepth 100000 in
theorem lm_e129_36 {sc : lm_H} {d : Nat} {x0 : Int32} {x2 : Int32} {s0 : Int32} {σ : lm_S} {r : Except Nat lm_R × lm_S} (h : lm_q129_36 sc (lm_cal sc d) (lm_rn sc d lm_m129.2.2.2.2.1 (lm_reg lm_m129.2.2.2.2.2)) x0 x2 s0 σ = some r) : lm_rn sc d lm_m129.2.2.2.2.1 (lm_reg lm_m129.2.2.2.2.2) (36, [(0, .int x0), (2, .int x2)], [.int s0]) σ = some r := lm_rn_of h
/-- LatticeSuiteModel.named, from 0 on -/
noncomputable def lm_q130_0 (sc : lm_H) (A : Nat → List Value → lm_M lm_R) (B : lm_F → lm_M lm_R) (x0 : Nat) (x1 : Nat) (x2 : Int32) (x3 : Int32) : lm_M lm_R :=
  lm_bind (lm_sel [(11, 61)] (some (.ref x0))) fun y1 =>
  lm_bind (lm_asV (A y1 [.ref x0, .int (Int32.ofInt 3)])) fun _ =>
  B (8, [(0, .ref x0), (1, .ref x1), (2, .int x2), (3, .int x3), (4, .int (Int32.ofInt 0))], [])
set_option maxRecDepth 100000 in
theorem lm_e130_0 {sc : lm_H} {d : Nat} {x0 : Nat} {x1 : Nat} {x2 : Int32} {x3 : Int32} {σ : lm_S} {r : Except Nat lm_R × lm_S} (h : lm_q130_0 sc (lm_cal sc d) (lm_rn sc d lm_m130.2.2.2.2.1 (lm_reg lm_m130.2.2.2.2.2)) x0 x1 x2 x3  σ = some r) : lm_rn sc d lm_m130.2.2.2.2.1 (lm_reg lm_m130.2.2.2.2.2) (0, [(0, .ref x0), (1, .ref x1), (2, .int x2), (3, .int x3)], []) σ = some r := lm_rn_of h
/-- LatticeSuiteModel.named, from 8 on -/
noncomputable def lm_q130_8 (sc : lm_H) (A : Nat → List Value → lm_M lm_R) (B : lm_F → lm_M lm_R) (x0 : Nat) (x1 : Nat) (x2 : Int32) (x3 : Int32) (x4 : Int32) : lm_M lm_R :=
  lm_if .ge x4 (Int32.ofInt 8) (lm_bind (lm_sel [(11, 69)] (some (.ref x0))) fun y1 =>
  lm_bind (lm_asV (A y1 [.ref x0, .int (Int32.ofInt 83)])) fun _ =>
  lm_bind (lm_sel [(11, 69)] (some (.ref x0))) fun y2 =>
  lm_bind (lm_asV (A y2 [.ref x0, .int (Int32.ofInt 72)])) fun _ =>
  lm_bind (lm_sel [(11, 69)] (some (.ref x0))) fun y3 =>
  lm_bind (lm_asV (A y3 [.ref x0, .int (Int32.ofInt 65)])) fun _ =>
  lm_bind (lm_sel [(11, 69)] (some (.ref x0))) fun y4 =>
  lm_bind (lm_asV (A y4 [.ref x0, .int (Int32.ofInt 45)])) fun _ =>
  lm_bind (lm_sel [(11, 69)] (some (.ref x0))) fun y5 =>
  lm_bind (lm_asV (A y5 [.ref x0, .int (Int32.ofInt 53)])) fun _ =>
  lm_bind (lm_sel [(11, 69)] (some (.ref x0))) fun y6 =>
  lm_bind (lm_asV (A y6 [.ref x0, .int (Int32.ofInt 49)])) fun _ =>
  lm_bind (lm_sel [(11, 69)] (some (.ref x0))) fun y7 =>
  lm_bind (lm_asV (A y7 [.ref x0, .int (Int32.ofInt 50)])) fun _ =>
  lm_bind (lm_sel [(11, 69)] (some (.ref x0))) fun y8 =>
  lm_bind (lm_asV (A y8 [.ref x0, .int (Int32.ofInt 47)])) fun _ =>
  lm_bind (lm_sel [(11, 69)] (some (.ref x0))) fun y9 =>
  lm_bind (lm_asV (A y9 [.ref x0, .int (Int32.ofInt 50)])) fun _ =>
  lm_bind (lm_sel [(11, 69)] (some (.ref x0))) fun y10 =>
  lm_bind (lm_asV (A y10 [.ref x0, .int x2])) fun _ =>
  lm_bind (lm_sel [(11, 69)] (some (.ref x0))) fun y11 =>
  lm_bind (lm_asV (A y11 [.ref x0, .int x3])) fun _ =>
  lm_bind (lm_sel [(11, 147)] (some (.ref x0))) fun y12 =>
  lm_bind (lm_asV (A y12 [.ref x0])) fun _ =>
  B (105, [(0, .ref x0), (1, .ref x1), (4, .int (Int32.ofInt 0))], [])) (lm_bind (lm_gR 4454 x0) fun v13 =>
  lm_bind (lm_lald sc v13 x4) fun v14 =>
  lm_bind (lm_last v13 x4 (v14 ^^^ (Int64.ofNat 11936128518282651045))) fun _ =>
  B (8, [(0, .ref x0), (1, .ref x1), (2, .int x2), (3, .int x3), (4, .int (x4 + Int32.ofInt 1))], []))
set_option maxRecDepth 100000 in
theorem lm_e130_8 {sc : lm_H} {d : Nat} {x0 : Nat} {x1 : Nat} {x2 : Int32} {x3 : Int32} {x4 : Int32} {σ : lm_S} {r : Except Nat lm_R × lm_S} (h : lm_q130_8 sc (lm_cal sc d) (lm_rn sc d lm_m130.2.2.2.2.1 (lm_reg lm_m130.2.2.2.2.2)) x0 x1 x2 x3 x4  σ = some r) : lm_rn sc d lm_m130.2.2.2.2.1 (lm_reg lm_m130.2.2.2.2.2) (8, [(0, .ref x0), (1, .ref x1), (2, .int x2), (3, .int x3), (4, .int x4)], []) σ = some r := lm_rn_of h
/-- LatticeSuiteModel.named, from 105 on -/
noncomputable def lm_q130_105 (sc : lm_H) (A : Nat → List Value → lm_M lm_R) (B : lm_F → lm_M lm_R) (x0 : Nat) (x1 : Nat) (x4 : Int32) : lm_M lm_R :=
  lm_if .ge x4 (Int32.ofInt 8) (lm_ret none) (lm_bind (lm_gR 4454 x0) fun v1 =>
  lm_bind (lm_lald sc v1 x4) fun v2 =>
  lm_bind (lm_last x1 x4 v2) fun _ =>
  B (105, [(0, .ref x0), (1, .ref x1), (4, .int (x4 + Int32.ofInt 1))], []))
set_option maxRecDepth 100000 in
theorem lm_e130_105 {sc : lm_H} {d : Nat} {x0 : Nat} {x1 : Nat} {x4 : Int32} {σ : lm_S} {r : Except Nat lm_R × lm_S} (h : lm_q130_105 sc (lm_cal sc d) (lm_rn sc d lm_m130.2.2.2.2.1 (lm_reg lm_m130.2.2.2.2.2)) x0 x1 x4  σ = some r) : lm_rn sc d lm_m130.2.2.2.2.1 (lm_reg lm_m130.2.2.2.2.2) (105, [(0, .ref x0), (1, .ref x1), (4, .int x4)], []) σ = some r := lm_rn_of h
/-- LatticeSuite$Bits.putInt, from 0 on -/
noncomputable def lm_q131_0 (sc : lm_H) (A : Nat → List Value → lm_M lm_R) (B : lm_F → lm_M lm_R) (x0 : Int32) (x1 : Nat) (x2 : Int32) : lm_M lm_R :=
  lm_bind (lm_bast x1 x2 (lm_b8 (x0 >>> ((Int32.ofInt 24) &&& 31)))) fun _ =>
  lm_bind (lm_bast x1 (x2 + (Int32.ofInt 1)) (lm_b8 (x0 >>> ((Int32.ofInt 16) &&& 31)))) fun _ =>
  lm_bind (lm_bast x1 (x2 + (Int32.ofInt 2)) (lm_b8 (x0 >>> ((Int32.ofInt 8) &&& 31)))) fun _ =>
  lm_bind (lm_bast x1 (x2 + (Int32.ofInt 3)) (lm_b8 x0)) fun _ =>
  lm_ret none
set_option maxRecDepth 100000 in
theorem lm_e131_0 {sc : lm_H} {d : Nat} {x0 : Int32} {x1 : Nat} {x2 : Int32} {σ : lm_S} {r : Except Nat lm_R × lm_S} (h : lm_q131_0 sc (lm_cal sc d) (lm_rn sc d lm_m131.2.2.2.2.1 (lm_reg lm_m131.2.2.2.2.2)) x0 x1 x2  σ = some r) : lm_rn sc d lm_m131.2.2.2.2.1 (lm_reg lm_m131.2.2.2.2.2) (0, [(0, .int x0), (1, .ref x1), (2, .int x2)], []) σ = some r := lm_rn_of h
/-- LatticeSuite.checkRange, from 0 on -/
noncomputable def lm_q132_0 (sc : lm_H) (A : Nat → List Value → lm_M lm_R) (B : lm_F → lm_M lm_R) (x0 : Int32) (x1 : Int32) (x2 : Int32) : lm_M lm_R :=
  lm_if .lt x0 x1 (lm_thr 13) (lm_if .le x0 x2 (lm_ret none) (lm_thr 13))
set_option maxRecDepth 100000 in
theorem lm_e132_0 {sc : lm_H} {d : Nat} {x0 : Int32} {x1 : Int32} {x2 : Int32} {σ : lm_S} {r : Except Nat lm_R × lm_S} (h : lm_q132_0 sc (lm_cal sc d) (lm_rn sc d lm_m132.2.2.2.2.1 (lm_reg lm_m132.2.2.2.2.2)) x0 x1 x2  σ = some r) : lm_rn sc d lm_m132.2.2.2.2.1 (lm_reg lm_m132.2.2.2.2.2) (0, [(0, .int x0), (1, .int x1), (2, .int x2)], []) σ = some r := lm_rn_of h
/-- LatticeSuite$Bytes.become, from 0 on -/
noncomputable def lm_q133_0 (sc : lm_H) (A : Nat → List Value → lm_M lm_R) (B : lm_F → lm_M lm_R) (x0 : Nat) (x1 : Nat) (x2 : Int32) : lm_M lm_R :=
  lm_bind (lm_gR 402 x0) fun v1 =>
  lm_bind (lm_copy sc x1 (Int32.ofInt 0) v1 (Int32.ofInt 0) x2) fun _ =>
  lm_bind (lm_putf 404 x0 (.int x2)) fun _ =>
  lm_ret none
set_option maxRecDepth 100000 in
theorem lm_e133_0 {sc : lm_H} {d : Nat} {x0 : Nat} {x1 : Nat} {x2 : Int32} {σ : lm_S} {r : Except Nat lm_R × lm_S} (h : lm_q133_0 sc (lm_cal sc d) (lm_rn sc d lm_m133.2.2.2.2.1 (lm_reg lm_m133.2.2.2.2.2)) x0 x1 x2  σ = some r) : lm_rn sc d lm_m133.2.2.2.2.1 (lm_reg lm_m133.2.2.2.2.2) (0, [(0, .ref x0), (1, .ref x1), (2, .int x2)], []) σ = some r := lm_rn_of h
/-- java/util/Arrays.fill, from 0 on -/
noncomputable def lm_q134_0 (sc : lm_H) (A : Nat → List Value → lm_M lm_R) (B : lm_F → lm_M lm_R) (x0 : Nat) (x1 : Int32) (x2 : Int32) (x3 : Int32) : lm_M lm_R :=
  lm_bind (lm_alen sc x0) fun v1 =>
  lm_bind (lm_asV (A 198 [.int v1, .int x1, .int x2])) fun _ =>
  B (10, [(0, .ref x0), (2, .int x2), (3, .int x3), (4, .int x1)], [])
set_option maxRecDepth 100000 in
theorem lm_e134_0 {sc : lm_H} {d : Nat} {x0 : Nat} {x1 : Int32} {x2 : Int32} {x3 : Int32} {σ : lm_S} {r : Except Nat lm_R × lm_S} (h : lm_q134_0 sc (lm_cal sc d) (lm_rn sc d lm_m134.2.2.2.2.1 (lm_reg lm_m134.2.2.2.2.2)) x0 x1 x2 x3  σ = some r) : lm_rn sc d lm_m134.2.2.2.2.1 (lm_reg lm_m134.2.2.2.2.2) (0, [(0, .ref x0), (1, .int x1), (2, .int x2), (3, .int x3)], []) σ = some r := lm_rn_of h
/-- java/util/Arrays.fill, from 10 on -/
noncomputable def lm_q134_10 (sc : lm_H) (A : Nat → List Value → lm_M lm_R) (B : lm_F → lm_M lm_R) (x0 : Nat) (x2 : Int32) (x3 : Int32) (x4 : Int32) : lm_M lm_R :=
  lm_if .ge x4 x2 (lm_ret none) (lm_bind (lm_bast x0 x4 x3) fun _ =>
  B (10, [(0, .ref x0), (2, .int x2), (3, .int x3), (4, .int (x4 + Int32.ofInt 1))], []))
set_option maxRecDepth 100000 in
theorem lm_e134_10 {sc : lm_H} {d : Nat} {x0 : Nat} {x2 : Int32} {x3 : Int32} {x4 : Int32} {σ : lm_S} {r : Except Nat lm_R × lm_S} (h : lm_q134_10 sc (lm_cal sc d) (lm_rn sc d lm_m134.2.2.2.2.1 (lm_reg lm_m134.2.2.2.2.2)) x0 x2 x3 x4  σ = some r) : lm_rn sc d lm_m134.2.2.2.2.1 (lm_reg lm_m134.2.2.2.2.2) (10, [(0, .ref x0), (2, .int x2), (3, .int x3), (4, .int x4)], []) σ = some r := lm_rn_of h
/-- LatticeSuite.checkPlace, from 0 on -/
noncomputable def lm_q135_0 (sc : lm_H) (A : Nat → List Value → lm_M lm_R) (B : lm_F → lm_M lm_R) (x0 : Nat) (x1 : Int32) : lm_M lm_R :=
  lm_if .lt x1 0 (lm_thr 12) (lm_bind (lm_gI 404 x0) fun v1 =>
  lm_if .lt x1 v1 (lm_ret none) (lm_thr 12))
set_option maxRecDepth 100000 in
theorem lm_e135_0 {sc : lm_H} {d : Nat} {x0 : Nat} {x1 : Int32} {σ : lm_S} {r : Except Nat lm_R × lm_S} (h : lm_q135_0 sc (lm_cal sc d) (lm_rn sc d lm_m135.2.2.2.2.1 (lm_reg lm_m135.2.2.2.2.2)) x0 x1  σ = some r) : lm_rn sc d lm_m135.2.2.2.2.1 (lm_reg lm_m135.2.2.2.2.2) (0, [(0, .ref x0), (1, .int x1)], []) σ = some r := lm_rn_of h
/-- LatticeSuite$Bits.alike, from 0 on -/
noncomputable def lm_q136_0 (sc : lm_H) (A : Nat → List Value → lm_M lm_R) (B : lm_F → lm_M lm_R) (x0 : Nat) (x1 : Int32) (x2 : Nat) (x3 : Int32) (x4 : Int32) : lm_M lm_R :=
  B (3, [(0, .ref x0), (1, .int x1), (2, .ref x2), (3, .int x3), (4, .int x4), (5, .int (Int32.ofInt 0))], [])
set_option maxRecDepth 100000 in
theorem lm_e136_0 {sc : lm_H} {d : Nat} {x0 : Nat} {x1 : Int32} {x2 : Nat} {x3 : Int32} {x4 : Int32} {σ : lm_S} {r : Except Nat lm_R × lm_S} (h : lm_q136_0 sc (lm_cal sc d) (lm_rn sc d lm_m136.2.2.2.2.1 (lm_reg lm_m136.2.2.2.2.2)) x0 x1 x2 x3 x4  σ = some r) : lm_rn sc d lm_m136.2.2.2.2.1 (lm_reg lm_m136.2.2.2.2.2) (0, [(0, .ref x0), (1, .int x1), (2, .ref x2), (3, .int x3), (4, .int x4)], []) σ = some r := lm_rn_of h
/-- LatticeSuite$Bits.alike, from 3 on -/
noncomputable def lm_q136_3 (sc : lm_H) (A : Nat → List Value → lm_M lm_R) (B : lm_F → lm_M lm_R) (x0 : Nat) (x1 : Int32) (x2 : Nat) (x3 : Int32) (x4 : Int32) (x5 : Int32) : lm_M lm_R :=
  lm_if .ge x5 x4 (lm_when ((Int32.ofInt 1) = 0 ∨ (Int32.ofInt 1) = 1) inferInstance (lm_ret (some (.int (Int32.ofInt 1))))) (lm_bind (lm_bald sc x0 (x1 + x5)) fun v1 =>
  lm_bind (lm_bald sc x2 (x3 + x5)) fun v2 =>
  lm_if .eq v1 v2 (B (3, [(0, .ref x0), (1, .int x1), (2, .ref x2), (3, .int x3), (4, .int x4), (5, .int (x5 + Int32.ofInt 1))], [])) (lm_when ((Int32.ofInt 0) = 0 ∨ (Int32.ofInt 0) = 1) inferInstance (lm_ret (some (.int (Int32.ofInt 0))))))
set_option maxRecDepth 100000 in
theorem lm_e136_3 {sc : lm_H} {d : Nat} {x0 : Nat} {x1 : Int32} {x2 : Nat} {x3 : Int32} {x4 : Int32} {x5 : Int32} {σ : lm_S} {r : Except Nat lm_R × lm_S} (h : lm_q136_3 sc (lm_cal sc d) (lm_rn sc d lm_m136.2.2.2.2.1 (lm_reg lm_m136.2.2.2.2.2)) x0 x1 x2 x3 x4 x5  σ = some r) : lm_rn sc d lm_m136.2.2.2.2.1 (lm_reg lm_m136.2.2.2.2.2) (3, [(0, .ref x0), (1, .int x1), (2, .ref x2), (3, .int x3), (4, .int x4), (5, .int x5)], []) σ = some r := lm_rn_of h
/-- LatticeSuite.baseOf, from 0 on -/
noncomputable def lm_q137_0 (sc : lm_H) (A : Nat → List Value → lm_M lm_R) (B : lm_F → lm_M lm_R) (x0 : Int32) : lm_M lm_R :=
  lm_if .eq x0 (Int32.ofInt 13) (lm_ret (some (.int (Int32.ofInt 1)))) (lm_if .ne x0 (Int32.ofInt 15) (lm_if .eq x0 (Int32.ofInt 14) (B (26, [], [])) (lm_if .ne x0 (Int32.ofInt 16) (lm_ret (some (.int x0))) (B (26, [], [])))) (lm_ret (some (.int (Int32.ofInt 1)))))
set_option maxRecDepth 100000 in
theorem lm_e137_0 {sc : lm_H} {d : Nat} {x0 : Int32} {σ : lm_S} {r : Except Nat lm_R × lm_S} (h : lm_q137_0 sc (lm_cal sc d) (lm_rn sc d lm_m137.2.2.2.2.1 (lm_reg lm_m137.2.2.2.2.2)) x0  σ = some r) : lm_rn sc d lm_m137.2.2.2.2.1 (lm_reg lm_m137.2.2.2.2.2) (0, [(0, .int x0)], []) σ = some r := lm_rn_of h
/-- LatticeSuite.baseOf, from 26 on -/
noncomputable def lm_q137_26 (sc : lm_H) (A : Nat → List Value → lm_M lm_R) (B : lm_F → lm_M lm_R)  : lm_M lm_R :=
  lm_ret (some (.int (Int32.ofInt 3)))
set_option maxRecDepth 100000 in
theorem lm_e137_26 {sc : lm_H} {d : Nat}  {σ : lm_S} {r : Except Nat lm_R × lm_S} (h : lm_q137_26 sc (lm_cal sc d) (lm_rn sc d lm_m137.2.2.2.2.1 (lm_reg lm_m137.2.2.2.2.2))   σ = some r) : lm_rn sc d lm_m137.2.2.2.2.1 (lm_reg lm_m137.2.2.2.2.2) (26, [], []) σ = some r := lm_rn_of h
/-- LatticeSuite$Hashes.startMac, from 0 on -/
noncomputable def lm_q138_0 (sc : lm_H) (A : Nat → List Value → lm_M lm_R) (B : lm_F → lm_M lm_R) (x0 : Nat) (x1 : Int32) (x2 : Nat) (x3 : Int32) (x4 : Int32) : lm_M lm_R :=
  lm_bind (lm_sel [(2, 139)] (some (.ref x0))) fun y1 =>
  lm_bind (lm_asR (A y1 [.ref x0, .int x1])) fun v2 =>
  lm_bind (lm_gR 814 x0) fun v3 =>
  lm_bind (lm_asV (A 199 [.ref v3, .int (Int32.ofInt 0)])) fun _ =>
  lm_bind (lm_gI 1204 v2) fun v4 =>
  lm_if .le x4 v4 (lm_bind (lm_gR 814 x0) fun v5 =>
  lm_bind (lm_copy sc x2 x3 v5 (Int32.ofInt 0) x4) fun _ =>
  B (70, [(0, .ref x0), (5, .ref v2)], [])) (lm_bind (lm_sel [(5, 140), (6, 140), (7, 140)] (some (.ref v2))) fun y6 =>
  lm_bind (lm_asV (A y6 [.ref v2, .ref x2, .int x3, .int x4])) fun _ =>
  lm_bind (lm_gR 814 x0) fun v7 =>
  lm_bind (lm_iald sc (lm_B + 1) x1) fun v8 =>
  lm_bind (lm_sel [(5, 143), (6, 144), (7, 145)] (some (.ref v2))) fun y9 =>
  lm_bind (lm_asV (A y9 [.ref v2, .ref v7, .int (Int32.ofInt 0), .int v8])) fun _ =>
  lm_bind (lm_sel [(5, 200), (6, 201), (7, 202)] (some (.ref v2))) fun y10 =>
  lm_bind (lm_asV (A y10 [.ref v2, .int x1])) fun _ =>
  B (70, [(0, .ref x0), (5, .ref v2)], []))
set_option maxRecDepth 100000 in
theorem lm_e138_0 {sc : lm_H} {d : Nat} {x0 : Nat} {x1 : Int32} {x2 : Nat} {x3 : Int32} {x4 : Int32} {σ : lm_S} {r : Except Nat lm_R × lm_S} (h : lm_q138_0 sc (lm_cal sc d) (lm_rn sc d lm_m138.2.2.2.2.1 (lm_reg lm_m138.2.2.2.2.2)) x0 x1 x2 x3 x4  σ = some r) : lm_rn sc d lm_m138.2.2.2.2.1 (lm_reg lm_m138.2.2.2.2.2) (0, [(0, .ref x0), (1, .int x1), (2, .ref x2), (3, .int x3), (4, .int x4)], []) σ = some r := lm_rn_of h
/-- LatticeSuite$Hashes.startMac, from 70 on -/
noncomputable def lm_q138_70 (sc : lm_H) (A : Nat → List Value → lm_M lm_R) (B : lm_F → lm_M lm_R) (x0 : Nat) (x5 : Nat) : lm_M lm_R :=
  lm_bind (lm_sel [(2, 203)] (some (.ref x0))) fun y1 =>
  lm_bind (lm_asV (A y1 [.ref x0, .int (Int32.ofInt 54)])) fun _ =>
  lm_bind (lm_gR 814 x0) fun v2 =>
  lm_bind (lm_gI 1204 x5) fun v3 =>
  lm_bind (lm_sel [(5, 140), (6, 140), (7, 140)] (some (.ref x5))) fun y4 =>
  lm_bind (lm_asV (A y4 [.ref x5, .ref v2, .int (Int32.ofInt 0), .int v3])) fun _ =>
  lm_ret (some (.ref x5))
set_option maxRecDepth 100000 in
theorem lm_e138_70 {sc : lm_H} {d : Nat} {x0 : Nat} {x5 : Nat} {σ : lm_S} {r : Except Nat lm_R × lm_S} (h : lm_q138_70 sc (lm_cal sc d) (lm_rn sc d lm_m138.2.2.2.2.1 (lm_reg lm_m138.2.2.2.2.2)) x0 x5  σ = some r) : lm_rn sc d lm_m138.2.2.2.2.1 (lm_reg lm_m138.2.2.2.2.2) (70, [(0, .ref x0), (5, .ref x5)], []) σ = some r := lm_rn_of h
/-- LatticeSuite$Hashes.start, from 0 on -/
noncomputable def lm_q139_0 (sc : lm_H) (A : Nat → List Value → lm_M lm_R) (B : lm_F → lm_M lm_R) (x0 : Nat) (x1 : Int32) : lm_M lm_R :=
  lm_bind (lm_sel [(2, 204)] (some (.ref x0))) fun y1 =>
  lm_bind (lm_asR (A y1 [.ref x0, .int x1])) fun v2 =>
  lm_bind (lm_sel [(5, 200), (6, 201), (7, 202)] (some (.ref v2))) fun y3 =>
  lm_bind (lm_asV (A y3 [.ref v2, .int x1])) fun _ =>
  lm_ret (some (.ref v2))
set_option maxRecDepth 100000 in
theorem lm_e139_0 {sc : lm_H} {d : Nat} {x0 : Nat} {x1 : Int32} {σ : lm_S} {r : Except Nat lm_R × lm_S} (h : lm_q139_0 sc (lm_cal sc d) (lm_rn sc d lm_m139.2.2.2.2.1 (lm_reg lm_m139.2.2.2.2.2)) x0 x1  σ = some r) : lm_rn sc d lm_m139.2.2.2.2.1 (lm_reg lm_m139.2.2.2.2.2) (0, [(0, .ref x0), (1, .int x1)], []) σ = some r := lm_rn_of h
/-- LatticeSuite$Hash.add, from 0 on -/
noncomputable def lm_q140_0 (sc : lm_H) (A : Nat → List Value → lm_M lm_R) (B : lm_F → lm_M lm_R) (x0 : Nat) (x1 : Nat) (x2 : Int32) (x3 : Int32) : lm_M lm_R :=
  lm_bind (lm_gL 1213 x0) fun v1 =>
  lm_bind (lm_putf 1213 x0 (.long (v1 + (Int32.toInt64 x3)))) fun _ =>
  B (14, [(0, .ref x0), (1, .ref x1), (2, .int x2), (3, .int x3), (4, .int (Int32.ofInt 0))], [])
set_option maxRecDepth 100000 in
theorem lm_e140_0 {sc : lm_H} {d : Nat} {x0 : Nat} {x1 : Nat} {x2 : Int32} {x3 : Int32} {σ : lm_S} {r : Except Nat lm_R × lm_S} (h : lm_q140_0 sc (lm_cal sc d) (lm_rn sc d lm_m140.2.2.2.2.1 (lm_reg lm_m140.2.2.2.2.2)) x0 x1 x2 x3  σ = some r) : lm_rn sc d lm_m140.2.2.2.2.1 (lm_reg lm_m140.2.2.2.2.2) (0, [(0, .ref x0), (1, .ref x1), (2, .int x2), (3, .int x3)], []) σ = some r := lm_rn_of h
/-- LatticeSuite$Hash.add, from 14 on -/
noncomputable def lm_q140_14 (sc : lm_H) (A : Nat → List Value → lm_M lm_R) (B : lm_F → lm_M lm_R) (x0 : Nat) (x1 : Nat) (x2 : Int32) (x3 : Int32) (x4 : Int32) : lm_M lm_R :=
  lm_if .ge x4 x3 (lm_ret none) (lm_bind (lm_gI 1204 x0) fun v1 =>
  lm_bind (lm_gI 1208 x0) fun v2 =>
  lm_bind (lm_asI (A 205 [.int (v1 - v2), .int (x3 - x4)])) fun v3 =>
  lm_bind (lm_gR 1202 x0) fun v4 =>
  lm_bind (lm_gI 1208 x0) fun v5 =>
  lm_bind (lm_copy sc x1 (x2 + x4) v4 v5 v3) fun _ =>
  lm_bind (lm_gI 1208 x0) fun v6 =>
  lm_bind (lm_putf 1208 x0 (.int (v6 + v3))) fun _ =>
  lm_bind (lm_gI 1208 x0) fun v7 =>
  lm_bind (lm_gI 1204 x0) fun v8 =>
  lm_if .ne v7 v8 (B (94, [(0, .ref x0), (1, .ref x1), (2, .int x2), (3, .int x3), (4, .int (x4 + v3))], [])) (lm_bind (lm_sel [(5, 206), (6, 207), (7, 208)] (some (.ref x0))) fun y9 =>
  lm_bind (lm_asV (A y9 [.ref x0])) fun _ =>
  lm_bind (lm_putf 1208 x0 (.int (Int32.ofInt 0))) fun _ =>
  B (94, [(0, .ref x0), (1, .ref x1), (2, .int x2), (3, .int x3), (4, .int (x4 + v3))], [])))
set_option maxRecDepth 100000 in
theorem lm_e140_14 {sc : lm_H} {d : Nat} {x0 : Nat} {x1 : Nat} {x2 : Int32} {x3 : Int32} {x4 : Int32} {σ : lm_S} {r : Except Nat lm_R × lm_S} (h : lm_q140_14 sc (lm_cal sc d) (lm_rn sc d lm_m140.2.2.2.2.1 (lm_reg lm_m140.2.2.2.2.2)) x0 x1 x2 x3 x4  σ = some r) : lm_rn sc d lm_m140.2.2.2.2.1 (lm_reg lm_m140.2.2.2.2.2) (14, [(0, .ref x0), (1, .ref x1), (2, .int x2), (3, .int x3), (4, .int x4)], []) σ = some r := lm_rn_of h
/-- LatticeSuite$Hash.add, from 94 on -/
noncomputable def lm_q140_94 (sc : lm_H) (A : Nat → List Value → lm_M lm_R) (B : lm_F → lm_M lm_R) (x0 : Nat) (x1 : Nat) (x2 : Int32) (x3 : Int32) (x4 : Int32) : lm_M lm_R :=
  B (14, [(0, .ref x0), (1, .ref x1), (2, .int x2), (3, .int x3), (4, .int x4)], [])
set_option maxRecDepth 100000 in
theorem lm_e140_94 {sc : lm_H} {d : Nat} {x0 : Nat} {x1 : Nat} {x2 : Int32} {x3 : Int32} {x4 : Int32} {σ : lm_S} {r : Except Nat lm_R × lm_S} (h : lm_q140_94 sc (lm_cal sc d) (lm_rn sc d lm_m140.2.2.2.2.1 (lm_reg lm_m140.2.2.2.2.2)) x0 x1 x2 x3 x4  σ = some r) : lm_rn sc d lm_m140.2.2.2.2.1 (lm_reg lm_m140.2.2.2.2.2) (94, [(0, .ref x0), (1, .ref x1), (2, .int x2), (3, .int x3), (4, .int x4)], []) σ = some r := lm_rn_of h
/-- LatticeSuite$Hashes.finishMac, from 0 on -/
noncomputable def lm_q141_0 (sc : lm_H) (A : Nat → List Value → lm_M lm_R) (B : lm_F → lm_M lm_R) (x0 : Nat) (x1 : Int32) (x2 : Nat) (x3 : Int32) (x4 : Int32) : lm_M lm_R :=
  lm_bind (lm_sel [(2, 204)] (some (.ref x0))) fun y1 =>
  lm_bind (lm_asR (A y1 [.ref x0, .int x1])) fun v2 =>
  lm_bind (lm_gR 818 x0) fun v3 =>
  lm_bind (lm_iald sc (lm_B + 1) x1) fun v4 =>
  lm_bind (lm_sel [(5, 143), (6, 144), (7, 145)] (some (.ref v2))) fun y5 =>
  lm_bind (lm_asV (A y5 [.ref v2, .ref v3, .int (Int32.ofInt 0), .int v4])) fun _ =>
  lm_bind (lm_sel [(2, 139)] (some (.ref x0))) fun y6 =>
  lm_bind (lm_asR (A y6 [.ref x0, .int x1])) fun v7 =>
  lm_bind (lm_sel [(2, 203)] (some (.ref x0))) fun y8 =>
  lm_bind (lm_asV (A y8 [.ref x0, .int (Int32.ofInt 106)])) fun _ =>
  lm_bind (lm_gR 814 x0) fun v9 =>
  lm_bind (lm_gI 1204 v7) fun v10 =>
  lm_bind (lm_sel [(5, 140), (6, 140), (7, 140)] (some (.ref v7))) fun y11 =>
  lm_bind (lm_asV (A y11 [.ref v7, .ref v9, .int (Int32.ofInt 0), .int v10])) fun _ =>
  lm_bind (lm_gR 818 x0) fun v12 =>
  lm_bind (lm_iald sc (lm_B + 1) x1) fun v13 =>
  lm_bind (lm_sel [(5, 140), (6, 140), (7, 140)] (some (.ref v7))) fun y14 =>
  lm_bind (lm_asV (A y14 [.ref v7, .ref v12, .int (Int32.ofInt 0), .int v13])) fun _ =>
  lm_bind (lm_sel [(5, 143), (6, 144), (7, 145)] (some (.ref v7))) fun y15 =>
  lm_bind (lm_asV (A y15 [.ref v7, .ref x2, .int x3, .int x4])) fun _ =>
  lm_ret none
set_option maxRecDepth 100000 in
theorem lm_e141_0 {sc : lm_H} {d : Nat} {x0 : Nat} {x1 : Int32} {x2 : Nat} {x3 : Int32} {x4 : Int32} {σ : lm_S} {r : Except Nat lm_R × lm_S} (h : lm_q141_0 sc (lm_cal sc d) (lm_rn sc d lm_m141.2.2.2.2.1 (lm_reg lm_m141.2.2.2.2.2)) x0 x1 x2 x3 x4  σ = some r) : lm_rn sc d lm_m141.2.2.2.2.1 (lm_reg lm_m141.2.2.2.2.2) (0, [(0, .ref x0), (1, .int x1), (2, .ref x2), (3, .int x3), (4, .int x4)], []) σ = some r := lm_rn_of h
/-- LatticeSuite$Hashes.finishMask, from 0 on -/
noncomputable def lm_q142_0 (sc : lm_H) (A : Nat → List Value → lm_M lm_R) (B : lm_F → lm_M lm_R) (x0 : Nat) (x1 : Int32) (x2 : Nat) (x3 : Int32) : lm_M lm_R :=
  lm_bind (lm_sel [(2, 204)] (some (.ref x0))) fun y1 =>
  lm_bind (lm_asR (A y1 [.ref x0, .int x1])) fun v2 =>
  lm_bind (lm_iald sc (lm_B + 1) x1) fun v3 =>
  lm_bind (lm_sel [(5, 209), (6, 209), (7, 209)] (some (.ref v2))) fun y4 =>
  lm_bind (lm_asV (A y4 [.ref v2])) fun _ =>
  B (25, [(0, .ref x0), (2, .ref x2), (3, .int x3), (4, .ref v2), (5, .int v3), (6, .int (Int32.ofInt 0)), (7, .int (Int32.ofInt 0))], [])
set_option maxRecDepth 100000 in
theorem lm_e142_0 {sc : lm_H} {d : Nat} {x0 : Nat} {x1 : Int32} {x2 : Nat} {x3 : Int32} {σ : lm_S} {r : Except Nat lm_R × lm_S} (h : lm_q142_0 sc (lm_cal sc d) (lm_rn sc d lm_m142.2.2.2.2.1 (lm_reg lm_m142.2.2.2.2.2)) x0 x1 x2 x3  σ = some r) : lm_rn sc d lm_m142.2.2.2.2.1 (lm_reg lm_m142.2.2.2.2.2) (0, [(0, .ref x0), (1, .int x1), (2, .ref x2), (3, .int x3)], []) σ = some r := lm_rn_of h
/-- LatticeSuite$Hashes.finishMask, from 25 on -/
noncomputable def lm_q142_25 (sc : lm_H) (A : Nat → List Value → lm_M lm_R) (B : lm_F → lm_M lm_R) (x0 : Nat) (x2 : Nat) (x3 : Int32) (x4 : Nat) (x5 : Int32) (x6 : Int32) (x7 : Int32) : lm_M lm_R :=
  lm_if .ge x6 x3 (lm_ret none) (lm_bind (lm_gR 822 x0) fun v1 =>
  lm_bind (lm_asV (A 131 [.int x7, .ref v1, .int (Int32.ofInt 0)])) fun _ =>
  lm_bind (lm_sel [(5, 210), (6, 210), (7, 210)] (some (.ref x4))) fun y2 =>
  lm_bind (lm_asV (A y2 [.ref x4])) fun _ =>
  lm_bind (lm_gR 822 x0) fun v3 =>
  lm_bind (lm_sel [(5, 140), (6, 140), (7, 140)] (some (.ref x4))) fun y4 =>
  lm_bind (lm_asV (A y4 [.ref x4, .ref v3, .int (Int32.ofInt 0), .int (Int32.ofInt 4)])) fun _ =>
  lm_bind (lm_asI (A 205 [.int x5, .int (x3 - x6)])) fun v5 =>
  lm_bind (lm_sel [(5, 143), (6, 144), (7, 145)] (some (.ref x4))) fun y6 =>
  lm_bind (lm_asV (A y6 [.ref x4, .ref x2, .int x6, .int v5])) fun _ =>
  B (25, [(0, .ref x0), (2, .ref x2), (3, .int x3), (4, .ref x4), (5, .int x5), (6, .int (x6 + x5)), (7, .int (x7 + Int32.ofInt 1))], []))
set_option maxRecDepth 100000 in
theorem lm_e142_25 {sc : lm_H} {d : Nat} {x0 : Nat} {x2 : Nat} {x3 : Int32} {x4 : Nat} {x5 : Int32} {x6 : Int32} {x7 : Int32} {σ : lm_S} {r : Except Nat lm_R × lm_S} (h : lm_q142_25 sc (lm_cal sc d) (lm_rn sc d lm_m142.2.2.2.2.1 (lm_reg lm_m142.2.2.2.2.2)) x0 x2 x3 x4 x5 x6 x7  σ = some r) : lm_rn sc d lm_m142.2.2.2.2.1 (lm_reg lm_m142.2.2.2.2.2) (25, [(0, .ref x0), (2, .ref x2), (3, .int x3), (4, .ref x4), (5, .int x5), (6, .int x6), (7, .int x7)], []) σ = some r := lm_rn_of h
/-- LatticeSuite$Sponge.finish, from 0 on -/
noncomputable def lm_q143_0 (sc : lm_H) (A : Nat → List Value → lm_M lm_R) (B : lm_F → lm_M lm_R) (x0 : Nat) (x1 : Nat) (x2 : Int32) (x3 : Int32) : lm_M lm_R :=
  lm_bind (lm_gR 2002 x0) fun v1 =>
  lm_bind (lm_gI 2008 x0) fun v2 =>
  lm_bind (lm_gI 2040 x0) fun v3 =>
  lm_bind (lm_bast v1 v2 (lm_b8 v3)) fun _ =>
  lm_bind (lm_gR 2002 x0) fun v4 =>
  lm_bind (lm_gI 2008 x0) fun v5 =>
  lm_bind (lm_gI 2004 x0) fun v6 =>
  lm_bind (lm_asV (A 134 [.ref v4, .int (v5 + (Int32.ofInt 1)), .int v6, .int (Int32.ofInt 0)])) fun _ =>
  lm_bind (lm_gR 2002 x0) fun v7 =>
  lm_bind (lm_gI 2004 x0) fun v8 =>
  lm_bind (lm_bald sc v7 (v8 - (Int32.ofInt 1))) fun v9 =>
  lm_bind (lm_bast v7 (v8 - (Int32.ofInt 1)) (lm_b8 (v9 ^^^ (Int32.ofInt (-128))))) fun _ =>
  lm_bind (lm_sel [(5, 206)] (some (.ref x0))) fun y10 =>
  lm_bind (lm_asV (A y10 [.ref x0])) fun _ =>
  lm_bind (lm_gI 2004 x0) fun v11 =>
  lm_bind (lm_asI (A 205 [.int x3, .int v11])) fun v12 =>
  lm_bind (lm_sel [(5, 211)] (some (.ref x0))) fun y13 =>
  lm_bind (lm_asV (A y13 [.ref x0, .ref x1, .int x2, .int v12])) fun _ =>
  lm_bind (lm_gI 2004 x0) fun v14 =>
  B (73, [(0, .ref x0), (1, .ref x1), (2, .int x2), (3, .int x3), (4, .int v14)], [])
set_option maxRecDepth 100000 in
theorem lm_e143_0 {sc : lm_H} {d : Nat} {x0 : Nat} {x1 : Nat} {x2 : Int32} {x3 : Int32} {σ : lm_S} {r : Except Nat lm_R × lm_S} (h : lm_q143_0 sc (lm_cal sc d) (lm_rn sc d lm_m143.2.2.2.2.1 (lm_reg lm_m143.2.2.2.2.2)) x0 x1 x2 x3  σ = some r) : lm_rn sc d lm_m143.2.2.2.2.1 (lm_reg lm_m143.2.2.2.2.2) (0, [(0, .ref x0), (1, .ref x1), (2, .int x2), (3, .int x3)], []) σ = some r := lm_rn_of h
/-- LatticeSuite$Sponge.finish, from 73 on -/
noncomputable def lm_q143_73 (sc : lm_H) (A : Nat → List Value → lm_M lm_R) (B : lm_F → lm_M lm_R) (x0 : Nat) (x1 : Nat) (x2 : Int32) (x3 : Int32) (x4 : Int32) : lm_M lm_R :=
  lm_if .ge x4 x3 (lm_ret none) (lm_bind (lm_sel [(5, 212)] (some (.ref x0))) fun y1 =>
  lm_bind (lm_asV (A y1 [.ref x0])) fun _ =>
  lm_bind (lm_gI 2004 x0) fun v2 =>
  lm_bind (lm_asI (A 205 [.int (x3 - x4), .int v2])) fun v3 =>
  lm_bind (lm_sel [(5, 211)] (some (.ref x0))) fun y4 =>
  lm_bind (lm_asV (A y4 [.ref x0, .ref x1, .int (x2 + x4), .int v3])) fun _ =>
  lm_bind (lm_gI 2004 x0) fun v5 =>
  B (73, [(0, .ref x0), (1, .ref x1), (2, .int x2), (3, .int x3), (4, .int (x4 + v5))], []))
set_option maxRecDepth 100000 in
theorem lm_e143_73 {sc : lm_H} {d : Nat} {x0 : Nat} {x1 : Nat} {x2 : Int32} {x3 : Int32} {x4 : Int32} {σ : lm_S} {r : Except Nat lm_R × lm_S} (h : lm_q143_73 sc (lm_cal sc d) (lm_rn sc d lm_m143.2.2.2.2.1 (lm_reg lm_m143.2.2.2.2.2)) x0 x1 x2 x3 x4  σ = some r) : lm_rn sc d lm_m143.2.2.2.2.1 (lm_reg lm_m143.2.2.2.2.2) (73, [(0, .ref x0), (1, .ref x1), (2, .int x2), (3, .int x3), (4, .int x4)], []) σ = some r := lm_rn_of h
/-- LatticeSuite$Sha256.finish, from 0 on -/
noncomputable def lm_q144_0 (sc : lm_H) (A : Nat → List Value → lm_M lm_R) (B : lm_F → lm_M lm_R) (x0 : Nat) (x1 : Nat) (x2 : Int32) (x3 : Int32) : lm_M lm_R :=
  lm_bind (lm_sel [(6, 213)] (some (.ref x0))) fun y1 =>
  lm_bind (lm_asI (A y1 [.ref x0, .int (Int32.ofInt 8)])) fun v2 =>
  lm_if .ne v2 0 (B (21, [(0, .ref x0), (1, .ref x1), (2, .int x2), (3, .int x3)], [])) (lm_bind (lm_sel [(6, 207)] (some (.ref x0))) fun y3 =>
  lm_bind (lm_asV (A y3 [.ref x0])) fun _ =>
  lm_bind (lm_gR 2402 x0) fun v4 =>
  lm_bind (lm_asV (A 199 [.ref v4, .int (Int32.ofInt 0)])) fun _ =>
  B (21, [(0, .ref x0), (1, .ref x1), (2, .int x2), (3, .int x3)], []))
set_option maxRecDepth 100000 in
theorem lm_e144_0 {sc : lm_H} {d : Nat} {x0 : Nat} {x1 : Nat} {x2 : Int32} {x3 : Int32} {σ : lm_S} {r : Except Nat lm_R × lm_S} (h : lm_q144_0 sc (lm_cal sc d) (lm_rn sc d lm_m144.2.2.2.2.1 (lm_reg lm_m144.2.2.2.2.2)) x0 x1 x2 x3  σ = some r) : lm_rn sc d lm_m144.2.2.2.2.1 (lm_reg lm_m144.2.2.2.2.2) (0, [(0, .ref x0), (1, .ref x1), (2, .int x2), (3, .int x3)], []) σ = some r := lm_rn_of h
/-- LatticeSuite$Sha256.finish, from 21 on -/
noncomputable def lm_q144_21 (sc : lm_H) (A : Nat → List Value → lm_M lm_R) (B : lm_F → lm_M lm_R) (x0 : Nat) (x1 : Nat) (x2 : Int32) (x3 : Int32) : lm_M lm_R :=
  lm_bind (lm_sel [(6, 214)] (some (.ref x0))) fun y1 =>
  lm_bind (lm_asV (A y1 [.ref x0])) fun _ =>
  lm_bind (lm_sel [(6, 207)] (some (.ref x0))) fun y2 =>
  lm_bind (lm_asV (A y2 [.ref x0])) fun _ =>
  B (32, [(0, .ref x0), (1, .ref x1), (2, .int x2), (3, .int x3), (4, .int (Int32.ofInt 0))], [])
set_option maxRecDepth 100000 in
theorem lm_e144_21 {sc : lm_H} {d : Nat} {x0 : Nat} {x1 : Nat} {x2 : Int32} {x3 : Int32} {σ : lm_S} {r : Except Nat lm_R × lm_S} (h : lm_q144_21 sc (lm_cal sc d) (lm_rn sc d lm_m144.2.2.2.2.1 (lm_reg lm_m144.2.2.2.2.2)) x0 x1 x2 x3  σ = some r) : lm_rn sc d lm_m144.2.2.2.2.1 (lm_reg lm_m144.2.2.2.2.2) (21, [(0, .ref x0), (1, .ref x1), (2, .int x2), (3, .int x3)], []) σ = some r := lm_rn_of h
/-- LatticeSuite$Sha256.finish, from 32 on -/
noncomputable def lm_q144_32 (sc : lm_H) (A : Nat → List Value → lm_M lm_R) (B : lm_F → lm_M lm_R) (x0 : Nat) (x1 : Nat) (x2 : Int32) (x3 : Int32) (x4 : Int32) : lm_M lm_R :=
  lm_if .ge x4 x3 (lm_ret none) (lm_bind (lm_gR 2430 x0) fun v1 =>
  lm_bind (lm_iald sc v1 (x4 >>> ((Int32.ofInt 2) &&& 31))) fun v2 =>
  lm_bind (lm_bast x1 (x2 + x4) (lm_b8 (lm_us v2 ((Int32.ofInt 24) - ((x4 &&& (Int32.ofInt 3)) <<< ((Int32.ofInt 3) &&& 31)))))) fun _ =>
  B (32, [(0, .ref x0), (1, .ref x1), (2, .int x2), (3, .int x3), (4, .int (x4 + Int32.ofInt 1))], []))
set_option maxRecDepth 100000 in
theorem lm_e144_32 {sc : lm_H} {d : Nat} {x0 : Nat} {x1 : Nat} {x2 : Int32} {x3 : Int32} {x4 : Int32} {σ : lm_S} {r : Except Nat lm_R × lm_S} (h : lm_q144_32 sc (lm_cal sc d) (lm_rn sc d lm_m144.2.2.2.2.1 (lm_reg lm_m144.2.2.2.2.2)) x0 x1 x2 x3 x4  σ = some r) : lm_rn sc d lm_m144.2.2.2.2.1 (lm_reg lm_m144.2.2.2.2.2) (32, [(0, .ref x0), (1, .ref x1), (2, .int x2), (3, .int x3), (4, .int x4)], []) σ = some r := lm_rn_of h
/-- LatticeSuite$Sha512.finish, from 0 on -/
noncomputable def lm_q145_0 (sc : lm_H) (A : Nat → List Value → lm_M lm_R) (B : lm_F → lm_M lm_R) (x0 : Nat) (x1 : Nat) (x2 : Int32) (x3 : Int32) : lm_M lm_R :=
  lm_bind (lm_sel [(7, 213)] (some (.ref x0))) fun y1 =>
  lm_bind (lm_asI (A y1 [.ref x0, .int (Int32.ofInt 16)])) fun v2 =>
  lm_if .ne v2 0 (B (21, [(0, .ref x0), (1, .ref x1), (2, .int x2), (3, .int x3)], [])) (lm_bind (lm_sel [(7, 208)] (some (.ref x0))) fun y3 =>
  lm_bind (lm_asV (A y3 [.ref x0])) fun _ =>
  lm_bind (lm_gR 2802 x0) fun v4 =>
  lm_bind (lm_asV (A 199 [.ref v4, .int (Int32.ofInt 0)])) fun _ =>
  B (21, [(0, .ref x0), (1, .ref x1), (2, .int x2), (3, .int x3)], []))
set_option maxRecDepth 100000 in
theorem lm_e145_0 {sc : lm_H} {d : Nat} {x0 : Nat} {x1 : Nat} {x2 : Int32} {x3 : Int32} {σ : lm_S} {r : Except Nat lm_R × lm_S} (h : lm_q145_0 sc (lm_cal sc d) (lm_rn sc d lm_m145.2.2.2.2.1 (lm_reg lm_m145.2.2.2.2.2)) x0 x1 x2 x3  σ = some r) : lm_rn sc d lm_m145.2.2.2.2.1 (lm_reg lm_m145.2.2.2.2.2) (0, [(0, .ref x0), (1, .ref x1), (2, .int x2), (3, .int x3)], []) σ = some r := lm_rn_of h
/-- LatticeSuite$Sha512.finish, from 21 on -/
noncomputable def lm_q145_21 (sc : lm_H) (A : Nat → List Value → lm_M lm_R) (B : lm_F → lm_M lm_R) (x0 : Nat) (x1 : Nat) (x2 : Int32) (x3 : Int32) : lm_M lm_R :=
  lm_bind (lm_sel [(7, 214)] (some (.ref x0))) fun y1 =>
  lm_bind (lm_asV (A y1 [.ref x0])) fun _ =>
  lm_bind (lm_sel [(7, 208)] (some (.ref x0))) fun y2 =>
  lm_bind (lm_asV (A y2 [.ref x0])) fun _ =>
  B (32, [(0, .ref x0), (1, .ref x1), (2, .int x2), (3, .int x3), (4, .int (Int32.ofInt 0))], [])
set_option maxRecDepth 100000 in
theorem lm_e145_21 {sc : lm_H} {d : Nat} {x0 : Nat} {x1 : Nat} {x2 : Int32} {x3 : Int32} {σ : lm_S} {r : Except Nat lm_R × lm_S} (h : lm_q145_21 sc (lm_cal sc d) (lm_rn sc d lm_m145.2.2.2.2.1 (lm_reg lm_m145.2.2.2.2.2)) x0 x1 x2 x3  σ = some r) : lm_rn sc d lm_m145.2.2.2.2.1 (lm_reg lm_m145.2.2.2.2.2) (21, [(0, .ref x0), (1, .ref x1), (2, .int x2), (3, .int x3)], []) σ = some r := lm_rn_of h
/-- LatticeSuite$Sha512.finish, from 32 on -/
noncomputable def lm_q145_32 (sc : lm_H) (A : Nat → List Value → lm_M lm_R) (B : lm_F → lm_M lm_R) (x0 : Nat) (x1 : Nat) (x2 : Int32) (x3 : Int32) (x4 : Int32) : lm_M lm_R :=
  lm_if .ge x4 x3 (lm_ret none) (lm_bind (lm_gR 2830 x0) fun v1 =>
  lm_bind (lm_lald sc v1 (x4 >>> ((Int32.ofInt 3) &&& 31))) fun v2 =>
  lm_bind (lm_bast x1 (x2 + x4) (lm_b8 (Int64.toInt32 (lm_uL v2 ((Int32.ofInt 56) - ((x4 &&& (Int32.ofInt 7)) <<< ((Int32.ofInt 3) &&& 31))))))) fun _ =>
  B (32, [(0, .ref x0), (1, .ref x1), (2, .int x2), (3, .int x3), (4, .int (x4 + Int32.ofInt 1))], []))
set_option maxRecDepth 100000 in
theorem lm_e145_32 {sc : lm_H} {d : Nat} {x0 : Nat} {x1 : Nat} {x2 : Int32} {x3 : Int32} {x4 : Int32} {σ : lm_S} {r : Except Nat lm_R × lm_S} (h : lm_q145_32 sc (lm_cal sc d) (lm_rn sc d lm_m145.2.2.2.2.1 (lm_reg lm_m145.2.2.2.2.2)) x0 x1 x2 x3 x4  σ = some r) : lm_rn sc d lm_m145.2.2.2.2.1 (lm_reg lm_m145.2.2.2.2.2) (32, [(0, .ref x0), (1, .ref x1), (2, .int x2), (3, .int x3), (4, .int x4)], []) σ = some r := lm_rn_of h
/-- LatticeSuiteModel.blockOf, from 0 on -/
noncomputable def lm_q146_0 (sc : lm_H) (A : Nat → List Value → lm_M lm_R) (B : lm_F → lm_M lm_R) (x0 : Int32) : lm_M lm_R :=
  lm_if .eq x0 (Int32.ofInt 1) (B (10, [], [])) (lm_if .ne x0 (Int32.ofInt 4) (lm_ret (some (.int (Int32.ofInt 128)))) (B (10, [], [])))
set_option maxRecDepth 100000 in
theorem lm_e146_0 {sc : lm_H} {d : Nat} {x0 : Int32} {σ : lm_S} {r : Except Nat lm_R × lm_S} (h : lm_q146_0 sc (lm_cal sc d) (lm_rn sc d lm_m146.2.2.2.2.1 (lm_reg lm_m146.2.2.2.2.2)) x0  σ = some r) : lm_rn sc d lm_m146.2.2.2.2.1 (lm_reg lm_m146.2.2.2.2.2) (0, [(0, .int x0)], []) σ = some r := lm_rn_of h
/-- LatticeSuiteModel.blockOf, from 10 on -/
noncomputable def lm_q146_10 (sc : lm_H) (A : Nat → List Value → lm_M lm_R) (B : lm_F → lm_M lm_R)  : lm_M lm_R :=
  lm_ret (some (.int (Int32.ofInt 64)))
set_option maxRecDepth 100000 in
theorem lm_e146_10 {sc : lm_H} {d : Nat}  {σ : lm_S} {r : Except Nat lm_R × lm_S} (h : lm_q146_10 sc (lm_cal sc d) (lm_rn sc d lm_m146.2.2.2.2.1 (lm_reg lm_m146.2.2.2.2.2))   σ = some r) : lm_rn sc d lm_m146.2.2.2.2.1 (lm_reg lm_m146.2.2.2.2.2) (10, [], []) σ = some r := lm_rn_of h
/-- LatticeSuiteModel.finish, from 0 on -/
noncomputable def lm_q147_0 (sc : lm_H) (A : Nat → List Value → lm_M lm_R) (B : lm_F → lm_M lm_R) (x0 : Nat) : lm_M lm_R :=
  lm_bind (lm_sel [(11, 148)] (some (.ref x0))) fun y1 =>
  lm_bind (lm_asI (A y1 [.ref x0])) fun v2 =>
  lm_if .eq v2 0 (lm_bind (lm_gL 4485 x0) fun v3 =>
  lm_bind (lm_sel [(11, 69)] (some (.ref x0))) fun y4 =>
  lm_bind (lm_asV (A y4 [.ref x0, .int (Int32.ofInt 128)])) fun _ =>
  B (70, [(0, .ref x0), (1, .long ((Int64.ofNat 8) * v3))], [])) (lm_bind (lm_gI 4480 x0) fun v5 =>
  lm_bind (lm_gI 4472 x0) fun v6 =>
  lm_if .le v6 (Int32.ofInt 10) (B (28, [(0, .ref x0)], [.int (Int32.ofInt 6), .int v5, .ref x0])) (B (28, [(0, .ref x0)], [.int (Int32.ofInt 31), .int v5, .ref x0])))
set_option maxRecDepth 100000 in
theorem lm_e147_0 {sc : lm_H} {d : Nat} {x0 : Nat} {σ : lm_S} {r : Except Nat lm_R × lm_S} (h : lm_q147_0 sc (lm_cal sc d) (lm_rn sc d lm_m147.2.2.2.2.1 (lm_reg lm_m147.2.2.2.2.2)) x0  σ = some r) : lm_rn sc d lm_m147.2.2.2.2.1 (lm_reg lm_m147.2.2.2.2.2) (0, [(0, .ref x0)], []) σ = some r := lm_rn_of h
/-- LatticeSuiteModel.finish, from 70 on -/
noncomputable def lm_q147_70 (sc : lm_H) (A : Nat → List Value → lm_M lm_R) (B : lm_F → lm_M lm_R) (x0 : Nat) (x1 : Int64) : lm_M lm_R :=
  lm_bind (lm_gI 4480 x0) fun v1 =>
  lm_bind (lm_gI 4476 x0) fun v2 =>
  lm_bind (lm_gI 4476 x0) fun v3 =>
  lm_when (¬ (Int32.ofInt 8) = 0) inferInstance (lm_if .eq v1 (v2 - (v3 / (Int32.ofInt 8))) (lm_bind (lm_gI 4476 x0) fun v4 =>
  lm_when (¬ (Int32.ofInt 8) = 0) inferInstance (B (107, [(0, .ref x0), (1, .long x1), (3, .int ((v4 / (Int32.ofInt 8)) - (Int32.ofInt 1)))], []))) (lm_bind (lm_sel [(11, 69)] (some (.ref x0))) fun y5 =>
  lm_bind (lm_asV (A y5 [.ref x0, .int (Int32.ofInt 0)])) fun _ =>
  B (70, [(0, .ref x0), (1, .long x1)], [])))
set_option maxRecDepth 100000 in
theorem lm_e147_70 {sc : lm_H} {d : Nat} {x0 : Nat} {x1 : Int64} {σ : lm_S} {r : Except Nat lm_R × lm_S} (h : lm_q147_70 sc (lm_cal sc d) (lm_rn sc d lm_m147.2.2.2.2.1 (lm_reg lm_m147.2.2.2.2.2)) x0 x1  σ = some r) : lm_rn sc d lm_m147.2.2.2.2.1 (lm_reg lm_m147.2.2.2.2.2) (70, [(0, .ref x0), (1, .long x1)], []) σ = some r := lm_rn_of h
/-- LatticeSuiteModel.finish, from 28 on -/
noncomputable def lm_q147_28 (sc : lm_H) (A : Nat → List Value → lm_M lm_R) (B : lm_F → lm_M lm_R) (x0 : Nat) (s0 : Int32) (s1 : Int32) (s2 : Nat) : lm_M lm_R :=
  lm_bind (lm_sel [(11, 153)] (some (.ref s2))) fun y1 =>
  lm_bind (lm_asV (A y1 [.ref s2, .int s1, .int s0])) fun _ =>
  lm_bind (lm_gI 4476 x0) fun v2 =>
  lm_bind (lm_sel [(11, 153)] (some (.ref x0))) fun y3 =>
  lm_bind (lm_asV (A y3 [.ref x0, .int (v2 - (Int32.ofInt 1)), .int (Int32.ofInt 128)])) fun _ =>
  lm_bind (lm_sel [(11, 154)] (some (.ref x0))) fun y4 =>
  lm_bind (lm_asV (A y4 [.ref x0])) fun _ =>
  lm_bind (lm_putf 4480 x0 (.int (Int32.ofInt 0))) fun _ =>
  lm_ret none
set_option maxRecDepth 100000 in
theorem lm_e147_28 {sc : lm_H} {d : Nat} {x0 : Nat} {s0 : Int32} {s1 : Int32} {s2 : Nat} {σ : lm_S} {r : Except Nat lm_R × lm_S} (h : lm_q147_28 sc (lm_cal sc d) (lm_rn sc d lm_m147.2.2.2.2.1 (lm_reg lm_m147.2.2.2.2.2)) x0 s0 s1 s2 σ = some r) : lm_rn sc d lm_m147.2.2.2.2.1 (lm_reg lm_m147.2.2.2.2.2) (28, [(0, .ref x0)], [.int s0, .int s1, .ref s2]) σ = some r := lm_rn_of h
/-- LatticeSuiteModel.finish, from 107 on -/
noncomputable def lm_q147_107 (sc : lm_H) (A : Nat → List Value → lm_M lm_R) (B : lm_F → lm_M lm_R) (x0 : Nat) (x1 : Int64) (x3 : Int32) : lm_M lm_R :=
  lm_if .lt x3 0 (lm_ret none) (lm_if .ge x3 (Int32.ofInt 8) (B (129, [(0, .ref x0), (1, .long x1), (3, .int x3)], [.int (Int32.ofInt 0), .ref x0])) (B (129, [(0, .ref x0), (1, .long x1), (3, .int x3)], [.int (Int64.toInt32 (lm_uL x1 ((Int32.ofInt 8) * x3))), .ref x0])))
set_option maxRecDepth 100000 in
theorem lm_e147_107 {sc : lm_H} {d : Nat} {x0 : Nat} {x1 : Int64} {x3 : Int32} {σ : lm_S} {r : Except Nat lm_R × lm_S} (h : lm_q147_107 sc (lm_cal sc d) (lm_rn sc d lm_m147.2.2.2.2.1 (lm_reg lm_m147.2.2.2.2.2)) x0 x1 x3  σ = some r) : lm_rn sc d lm_m147.2.2.2.2.1 (lm_reg lm_m147.2.2.2.2.2) (107, [(0, .ref x0), (1, .long x1), (3, .int x3)], []) σ = some r := lm_rn_of h
/-- LatticeSuiteModel.finish, from 129 on -/
noncomputable def lm_q147_129 (sc : lm_H) (A : Nat → List Value → lm_M lm_R) (B : lm_F → lm_M lm_R) (x0 : Nat) (x1 : Int64) (x3 : Int32) (s0 : Int32) (s1 : Nat) : lm_M lm_R :=
  lm_bind (lm_sel [(11, 69)] (some (.ref s1))) fun y1 =>
  lm_bind (lm_asV (A y1 [.ref s1, .int s0])) fun _ =>
  B (107, [(0, .ref x0), (1, .long x1), (3, .int (x3 + Int32.ofInt (-1)))], [])
set_option maxRecDepth 100000 in
theorem lm_e147_129 {sc : lm_H} {d : Nat} {x0 : Nat} {x1 : Int64} {x3 : Int32} {s0 : Int32} {s1 : Nat} {σ : lm_S} {r : Except Nat lm_R × lm_S} (h : lm_q147_129 sc (lm_cal sc d) (lm_rn sc d lm_m147.2.2.2.2.1 (lm_reg lm_m147.2.2.2.2.2)) x0 x1 x3 s0 s1 σ = some r) : lm_rn sc d lm_m147.2.2.2.2.1 (lm_reg lm_m147.2.2.2.2.2) (129, [(0, .ref x0), (1, .long x1), (3, .int x3)], [.int s0, .ref s1]) σ = some r := lm_rn_of h
/-- LatticeSuiteModel.sponge, from 0 on -/
noncomputable def lm_q148_0 (sc : lm_H) (A : Nat → List Value → lm_M lm_R) (B : lm_F → lm_M lm_R) (x0 : Nat) : lm_M lm_R :=
  lm_bind (lm_gI 4472 x0) fun v1 =>
  lm_if .le v1 (Int32.ofInt 6) (lm_when ((Int32.ofInt 0) = 0 ∨ (Int32.ofInt 0) = 1) inferInstance (lm_ret (some (.int (Int32.ofInt 0))))) (lm_when ((Int32.ofInt 1) = 0 ∨ (Int32.ofInt 1) = 1) inferInstance (lm_ret (some (.int (Int32.ofInt 1)))))
set_option maxRecDepth 100000 in
theorem lm_e148_0 {sc : lm_H} {d : Nat} {x0 : Nat} {σ : lm_S} {r : Except Nat lm_R × lm_S} (h : lm_q148_0 sc (lm_cal sc d) (lm_rn sc d lm_m148.2.2.2.2.1 (lm_reg lm_m148.2.2.2.2.2)) x0  σ = some r) : lm_rn sc d lm_m148.2.2.2.2.1 (lm_reg lm_m148.2.2.2.2.2) (0, [(0, .ref x0)], []) σ = some r := lm_rn_of h
/-- LatticeSuiteModel.squeeze, from 0 on -/
noncomputable def lm_q149_0 (sc : lm_H) (A : Nat → List Value → lm_M lm_R) (B : lm_F → lm_M lm_R) (x0 : Nat) : lm_M lm_R :=
  lm_bind (lm_gI 4480 x0) fun v1 =>
  lm_bind (lm_gI 4476 x0) fun v2 =>
  lm_if .ne v1 v2 (B (20, [(0, .ref x0)], [])) (lm_bind (lm_sel [(11, 154)] (some (.ref x0))) fun y3 =>
  lm_bind (lm_asV (A y3 [.ref x0])) fun _ =>
  lm_bind (lm_putf 4480 x0 (.int (Int32.ofInt 0))) fun _ =>
  B (20, [(0, .ref x0)], []))
set_option maxRecDepth 100000 in
theorem lm_e149_0 {sc : lm_H} {d : Nat} {x0 : Nat} {σ : lm_S} {r : Except Nat lm_R × lm_S} (h : lm_q149_0 sc (lm_cal sc d) (lm_rn sc d lm_m149.2.2.2.2.1 (lm_reg lm_m149.2.2.2.2.2)) x0  σ = some r) : lm_rn sc d lm_m149.2.2.2.2.1 (lm_reg lm_m149.2.2.2.2.2) (0, [(0, .ref x0)], []) σ = some r := lm_rn_of h
/-- LatticeSuiteModel.squeeze, from 20 on -/
noncomputable def lm_q149_20 (sc : lm_H) (A : Nat → List Value → lm_M lm_R) (B : lm_F → lm_M lm_R) (x0 : Nat) : lm_M lm_R :=
  lm_bind (lm_gR 4454 x0) fun v1 =>
  lm_bind (lm_gI 4480 x0) fun v2 =>
  lm_when (¬ (Int32.ofInt 8) = 0) inferInstance (lm_bind (lm_lald sc v1 (v2 / (Int32.ofInt 8))) fun v3 =>
  lm_bind (lm_gI 4480 x0) fun v4 =>
  lm_when (¬ (Int32.ofInt 8) = 0) inferInstance (lm_bind (lm_gI 4480 x0) fun v5 =>
  lm_bind (lm_putf 4480 x0 (.int (v5 + (Int32.ofInt 1)))) fun _ =>
  lm_ret (some (.int ((Int64.toInt32 (lm_uL v3 ((Int32.ofInt 8) * (lm_rem v4 (Int32.ofInt 8))))) &&& (Int32.ofInt 255))))))
set_option maxRecDepth 100000 in
theorem lm_e149_20 {sc : lm_H} {d : Nat} {x0 : Nat} {σ : lm_S} {r : Except Nat lm_R × lm_S} (h : lm_q149_20 sc (lm_cal sc d) (lm_rn sc d lm_m149.2.2.2.2.1 (lm_reg lm_m149.2.2.2.2.2)) x0  σ = some r) : lm_rn sc d lm_m149.2.2.2.2.1 (lm_reg lm_m149.2.2.2.2.2) (20, [(0, .ref x0)], []) σ = some r := lm_rn_of h
/-- LatticeSuite.checkState, from 0 on -/
noncomputable def lm_q150_0 (sc : lm_H) (A : Nat → List Value → lm_M lm_R) (B : lm_F → lm_M lm_R) (x0 : Int32) : lm_M lm_R :=
  lm_if .ne x0 0 (lm_ret none) (lm_thr 14)
set_option maxRecDepth 100000 in
theorem lm_e150_0 {sc : lm_H} {d : Nat} {x0 : Int32} {σ : lm_S} {r : Except Nat lm_R × lm_S} (h : lm_q150_0 sc (lm_cal sc d) (lm_rn sc d lm_m150.2.2.2.2.1 (lm_reg lm_m150.2.2.2.2.2)) x0  σ = some r) : lm_rn sc d lm_m150.2.2.2.2.1 (lm_reg lm_m150.2.2.2.2.2) (0, [(0, .int x0)], []) σ = some r := lm_rn_of h
/-- LatticeSuite$Kem.choose, from 0 on -/
noncomputable def lm_q151_0 (sc : lm_H) (A : Nat → List Value → lm_M lm_R) (B : lm_F → lm_M lm_R) (x0 : Nat) (x1 : Int32) : lm_M lm_R :=
  lm_bind (lm_putf 3248 x0 (.int (x1 + (Int32.ofInt 2)))) fun _ =>
  lm_if .ne x1 0 (B (17, [(0, .ref x0), (1, .int x1)], [.int (Int32.ofInt 2), .ref x0])) (B (17, [(0, .ref x0), (1, .int x1)], [.int (Int32.ofInt 3), .ref x0]))
set_option maxRecDepth 100000 in
theorem lm_e151_0 {sc : lm_H} {d : Nat} {x0 : Nat} {x1 : Int32} {σ : lm_S} {r : Except Nat lm_R × lm_S} (h : lm_q151_0 sc (lm_cal sc d) (lm_rn sc d lm_m151.2.2.2.2.1 (lm_reg lm_m151.2.2.2.2.2)) x0 x1  σ = some r) : lm_rn sc d lm_m151.2.2.2.2.1 (lm_reg lm_m151.2.2.2.2.2) (0, [(0, .ref x0), (1, .int x1)], []) σ = some r := lm_rn_of h
/-- LatticeSuite$Kem.choose, from 17 on -/
noncomputable def lm_q151_17 (sc : lm_H) (A : Nat → List Value → lm_M lm_R) (B : lm_F → lm_M lm_R) (x0 : Nat) (x1 : Int32) (s0 : Int32) (s1 : Nat) : lm_M lm_R :=
  lm_bind (lm_putf 3252 s1 (.int s0)) fun _ =>
  lm_if .ne x1 (Int32.ofInt 2) (B (33, [(0, .ref x0), (1, .int x1)], [.int (Int32.ofInt 10), .ref x0])) (B (33, [(0, .ref x0), (1, .int x1)], [.int (Int32.ofInt 11), .ref x0]))
set_option maxRecDepth 100000 in
theorem lm_e151_17 {sc : lm_H} {d : Nat} {x0 : Nat} {x1 : Int32} {s0 : Int32} {s1 : Nat} {σ : lm_S} {r : Except Nat lm_R × lm_S} (h : lm_q151_17 sc (lm_cal sc d) (lm_rn sc d lm_m151.2.2.2.2.1 (lm_reg lm_m151.2.2.2.2.2)) x0 x1 s0 s1 σ = some r) : lm_rn sc d lm_m151.2.2.2.2.1 (lm_reg lm_m151.2.2.2.2.2) (17, [(0, .ref x0), (1, .int x1)], [.int s0, .ref s1]) σ = some r := lm_rn_of h
/-- LatticeSuite$Kem.choose, from 33 on -/
noncomputable def lm_q151_33 (sc : lm_H) (A : Nat → List Value → lm_M lm_R) (B : lm_F → lm_M lm_R) (x0 : Nat) (x1 : Int32) (s0 : Int32) (s1 : Nat) : lm_M lm_R :=
  lm_bind (lm_putf 3256 s1 (.int s0)) fun _ =>
  lm_if .ne x1 (Int32.ofInt 2) (lm_bind (lm_putf 3260 x0 (.int (Int32.ofInt 4))) fun _ =>
  lm_ret none) (lm_bind (lm_putf 3260 x0 (.int (Int32.ofInt 5))) fun _ =>
  lm_ret none)
set_option maxRecDepth 100000 in
theorem lm_e151_33 {sc : lm_H} {d : Nat} {x0 : Nat} {x1 : Int32} {s0 : Int32} {s1 : Nat} {σ : lm_S} {r : Except Nat lm_R × lm_S} (h : lm_q151_33 sc (lm_cal sc d) (lm_rn sc d lm_m151.2.2.2.2.1 (lm_reg lm_m151.2.2.2.2.2)) x0 x1 s0 s1 σ = some r) : lm_rn sc d lm_m151.2.2.2.2.1 (lm_reg lm_m151.2.2.2.2.2) (33, [(0, .ref x0), (1, .int x1)], [.int s0, .ref s1]) σ = some r := lm_rn_of h
/-- LatticeSuite$Kem.keys, from 0 on -/
noncomputable def lm_q152_0 (sc : lm_H) (A : Nat → List Value → lm_M lm_R) (B : lm_F → lm_M lm_R) (x0 : Nat) (x1 : Nat) (x2 : Nat) (x3 : Nat) : lm_M lm_R :=
  lm_bind (lm_gR 3234 x0) fun v1 =>
  lm_bind (lm_copy sc x1 (Int32.ofInt 0) v1 (Int32.ofInt 0) (Int32.ofInt 32)) fun _ =>
  lm_bind (lm_gR 3234 x0) fun v2 =>
  lm_bind (lm_gI 3248 x0) fun v3 =>
  lm_bind (lm_bast v2 (Int32.ofInt 32) (lm_b8 v3)) fun _ =>
  lm_bind (lm_gR 3234 x0) fun v4 =>
  lm_bind (lm_gR 3234 x0) fun v5 =>
  lm_bind (lm_sel [(8, 215)] (some (.ref x0))) fun y6 =>
  lm_bind (lm_asV (A y6 [.ref x0, .ref v4, .int (Int32.ofInt 33), .ref v5, .int (Int32.ofInt 0), .int (Int32.ofInt 0)])) fun _ =>
  lm_bind (lm_gR 3238 x0) fun v7 =>
  lm_bind (lm_sel [(8, 216)] (some (.ref x0))) fun y8 =>
  lm_bind (lm_asV (A y8 [.ref x0, .ref v7, .int (Int32.ofInt 0)])) fun _ =>
  B (52, [(0, .ref x0), (1, .ref x1), (2, .ref x2), (3, .ref x3), (4, .int (Int32.ofInt 0))], [])
set_option maxRecDepth 100000 in
theorem lm_e152_0 {sc : lm_H} {d : Nat} {x0 : Nat} {x1 : Nat} {x2 : Nat} {x3 : Nat} {σ : lm_S} {r : Except Nat lm_R × lm_S} (h : lm_q152_0 sc (lm_cal sc d) (lm_rn sc d lm_m152.2.2.2.2.1 (lm_reg lm_m152.2.2.2.2.2)) x0 x1 x2 x3  σ = some r) : lm_rn sc d lm_m152.2.2.2.2.1 (lm_reg lm_m152.2.2.2.2.2) (0, [(0, .ref x0), (1, .ref x1), (2, .ref x2), (3, .ref x3)], []) σ = some r := lm_rn_of h
/-- LatticeSuite$Kem.keys, from 52 on -/
noncomputable def lm_q152_52 (sc : lm_H) (A : Nat → List Value → lm_M lm_R) (B : lm_F → lm_M lm_R) (x0 : Nat) (x1 : Nat) (x2 : Nat) (x3 : Nat) (x4 : Int32) : lm_M lm_R :=
  lm_bind (lm_gI 3248 x0) fun v1 =>
  lm_if .ge x4 v1 (B (120, [(0, .ref x0), (1, .ref x1), (2, .ref x2), (3, .ref x3), (4, .int (Int32.ofInt 0))], [])) (lm_bind (lm_gR 3218 x0) fun v2 =>
  lm_bind (lm_aaR sc v2 x4) fun v3 =>
  lm_bind (lm_gI 3252 x0) fun v4 =>
  lm_bind (lm_sel [(8, 217)] (some (.ref x0))) fun y5 =>
  lm_bind (lm_asV (A y5 [.ref x0, .ref v3, .int x4, .int v4])) fun _ =>
  lm_bind (lm_gR 3218 x0) fun v6 =>
  lm_bind (lm_aaR sc v6 x4) fun v7 =>
  lm_bind (lm_sel [(8, 218)] (some (.ref x0))) fun y8 =>
  lm_bind (lm_asV (A y8 [.ref x0, .ref v7])) fun _ =>
  lm_bind (lm_gR 3218 x0) fun v9 =>
  lm_bind (lm_aaR sc v9 x4) fun v10 =>
  lm_bind (lm_gR 402 x3) fun v11 =>
  lm_bind (lm_asV (A 219 [.ref v10, .int (Int32.ofInt 12), .ref v11, .int ((Int32.ofInt 384) * x4)])) fun _ =>
  B (52, [(0, .ref x0), (1, .ref x1), (2, .ref x2), (3, .ref x3), (4, .int (x4 + Int32.ofInt 1))], []))
set_option maxRecDepth 100000 in
theorem lm_e152_52 {sc : lm_H} {d : Nat} {x0 : Nat} {x1 : Nat} {x2 : Nat} {x3 : Nat} {x4 : Int32} {σ : lm_S} {r : Except Nat lm_R × lm_S} (h : lm_q152_52 sc (lm_cal sc d) (lm_rn sc d lm_m152.2.2.2.2.1 (lm_reg lm_m152.2.2.2.2.2)) x0 x1 x2 x3 x4  σ = some r) : lm_rn sc d lm_m152.2.2.2.2.1 (lm_reg lm_m152.2.2.2.2.2) (52, [(0, .ref x0), (1, .ref x1), (2, .ref x2), (3, .ref x3), (4, .int x4)], []) σ = some r := lm_rn_of h
/-- LatticeSuite$Kem.keys, from 120 on -/
noncomputable def lm_q152_120 (sc : lm_H) (A : Nat → List Value → lm_M lm_R) (B : lm_F → lm_M lm_R) (x0 : Nat) (x1 : Nat) (x2 : Nat) (x3 : Nat) (x4 : Int32) : lm_M lm_R :=
  lm_bind (lm_gI 3248 x0) fun v1 =>
  lm_if .ge x4 v1 (lm_bind (lm_gR 3238 x0) fun v2 =>
  lm_bind (lm_gR 402 x2) fun v3 =>
  lm_bind (lm_gI 3248 x0) fun v4 =>
  lm_bind (lm_copy sc v2 (Int32.ofInt 0) v3 ((Int32.ofInt 384) * v4) (Int32.ofInt 32)) fun _ =>
  lm_bind (lm_sel [(8, 222)] (some (.ref x0))) fun y5 =>
  lm_bind (lm_asI (A y5 [.ref x0])) fun v6 =>
  lm_bind (lm_putf 404 x2 (.int v6)) fun _ =>
  lm_bind (lm_gR 402 x2) fun v7 =>
  lm_bind (lm_gR 402 x3) fun v8 =>
  lm_bind (lm_gI 3248 x0) fun v9 =>
  lm_bind (lm_gI 404 x2) fun v10 =>
  lm_bind (lm_copy sc v7 (Int32.ofInt 0) v8 ((Int32.ofInt 384) * v9) v10) fun _ =>
  lm_bind (lm_gR 402 x2) fun v11 =>
  lm_bind (lm_gR 402 x3) fun v12 =>
  lm_bind (lm_gI 3248 x0) fun v13 =>
  lm_bind (lm_sel [(8, 223)] (some (.ref x0))) fun y14 =>
  lm_bind (lm_asV (A y14 [.ref x0, .ref v11, .int (Int32.ofInt 0), .ref v12, .int (((Int32.ofInt 768) * v13) + (Int32.ofInt 32))])) fun _ =>
  lm_bind (lm_gR 402 x3) fun v15 =>
  lm_bind (lm_gI 3248 x0) fun v16 =>
  lm_bind (lm_copy sc x1 (Int32.ofInt 32) v15 (((Int32.ofInt 768) * v16) + (Int32.ofInt 64)) (Int32.ofInt 32)) fun _ =>
  lm_bind (lm_gI 3248 x0) fun v17 =>
  lm_bind (lm_putf 404 x3 (.int (((Int32.ofInt 768) * v17) + (Int32.ofInt 96)))) fun _ =>
  lm_ret none) (lm_bind (lm_gR 3222 x0) fun v18 =>
  lm_bind (lm_gI 3248 x0) fun v19 =>
  lm_bind (lm_gI 3252 x0) fun v20 =>
  lm_bind (lm_sel [(8, 217)] (some (.ref x0))) fun y21 =>
  lm_bind (lm_asV (A y21 [.ref x0, .ref v18, .int (v19 + x4), .int v20])) fun _ =>
  lm_bind (lm_gR 3222 x0) fun v22 =>
  lm_bind (lm_sel [(8, 218)] (some (.ref x0))) fun y23 =>
  lm_bind (lm_asV (A y23 [.ref x0, .ref v22])) fun _ =>
  B (159, [(0, .ref x0), (1, .ref x1), (2, .ref x2), (3, .ref x3), (4, .int x4), (5, .int (Int32.ofInt 0))], []))
set_option maxRecDepth 100000 in
theorem lm_e152_120 {sc : lm_H} {d : Nat} {x0 : Nat} {x1 : Nat} {x2 : Nat} {x3 : Nat} {x4 : Int32} {σ : lm_S} {r : Except Nat lm_R × lm_S} (h : lm_q152_120 sc (lm_cal sc d) (lm_rn sc d lm_m152.2.2.2.2.1 (lm_reg lm_m152.2.2.2.2.2)) x0 x1 x2 x3 x4  σ = some r) : lm_rn sc d lm_m152.2.2.2.2.1 (lm_reg lm_m152.2.2.2.2.2) (120, [(0, .ref x0), (1, .ref x1), (2, .ref x2), (3, .ref x3), (4, .int x4)], []) σ = some r := lm_rn_of h
/-- LatticeSuite$Kem.keys, from 159 on -/
noncomputable def lm_q152_159 (sc : lm_H) (A : Nat → List Value → lm_M lm_R) (B : lm_F → lm_M lm_R) (x0 : Nat) (x1 : Nat) (x2 : Nat) (x3 : Nat) (x4 : Int32) (x5 : Int32) : lm_M lm_R :=
  lm_bind (lm_gI 3248 x0) fun v1 =>
  lm_if .ge x5 v1 (lm_bind (lm_gR 3222 x0) fun v2 =>
  lm_bind (lm_asV (A 221 [.ref v2])) fun _ =>
  lm_bind (lm_gR 3222 x0) fun v3 =>
  lm_bind (lm_gR 402 x2) fun v4 =>
  lm_bind (lm_asV (A 219 [.ref v3, .int (Int32.ofInt 12), .ref v4, .int ((Int32.ofInt 384) * x4)])) fun _ =>
  B (120, [(0, .ref x0), (1, .ref x1), (2, .ref x2), (3, .ref x3), (4, .int (x4 + Int32.ofInt 1))], [])) (lm_bind (lm_gR 3214 x0) fun v5 =>
  lm_bind (lm_gI 3248 x0) fun v6 =>
  lm_bind (lm_aaR sc v5 ((x4 * v6) + x5)) fun v7 =>
  lm_bind (lm_gR 3218 x0) fun v8 =>
  lm_bind (lm_aaR sc v8 x5) fun v9 =>
  lm_bind (lm_sel [(8, 220)] (some (.ref x0))) fun y10 =>
  lm_bind (lm_asV (A y10 [.ref x0, .ref v7, .ref v9])) fun _ =>
  B (159, [(0, .ref x0), (1, .ref x1), (2, .ref x2), (3, .ref x3), (4, .int x4), (5, .int (x5 + Int32.ofInt 1))], []))
set_option maxRecDepth 100000 in
theorem lm_e152_159 {sc : lm_H} {d : Nat} {x0 : Nat} {x1 : Nat} {x2 : Nat} {x3 : Nat} {x4 : Int32} {x5 : Int32} {σ : lm_S} {r : Except Nat lm_R × lm_S} (h : lm_q152_159 sc (lm_cal sc d) (lm_rn sc d lm_m152.2.2.2.2.1 (lm_reg lm_m152.2.2.2.2.2)) x0 x1 x2 x3 x4 x5  σ = some r) : lm_rn sc d lm_m152.2.2.2.2.1 (lm_reg lm_m152.2.2.2.2.2) (159, [(0, .ref x0), (1, .ref x1), (2, .ref x2), (3, .ref x3), (4, .int x4), (5, .int x5)], []) σ = some r := lm_rn_of h
/-- LatticeSuiteModel.flip, from 0 on -/
noncomputable def lm_q153_0 (sc : lm_H) (A : Nat → List Value → lm_M lm_R) (B : lm_F → lm_M lm_R) (x0 : Nat) (x1 : Int32) (x2 : Int32) : lm_M lm_R :=
  lm_bind (lm_gR 4454 x0) fun v1 =>
  lm_when (¬ (Int32.ofInt 8) = 0) inferInstance (lm_bind (lm_lald sc v1 (x1 / (Int32.ofInt 8))) fun v2 =>
  lm_when (¬ (Int32.ofInt 8) = 0) inferInstance (lm_bind (lm_last v1 (x1 / (Int32.ofInt 8)) (v2 ^^^ (((Int32.toInt64 x2) &&& (Int64.ofNat 255)) <<< ((Int32.toInt64 ((Int32.ofInt 8) * (lm_rem x1 (Int32.ofInt 8)))) &&& 63)))) fun _ =>
  lm_ret none))
set_option maxRecDepth 100000 in
theorem lm_e153_0 {sc : lm_H} {d : Nat} {x0 : Nat} {x1 : Int32} {x2 : Int32} {σ : lm_S} {r : Except Nat lm_R × lm_S} (h : lm_q153_0 sc (lm_cal sc d) (lm_rn sc d lm_m153.2.2.2.2.1 (lm_reg lm_m153.2.2.2.2.2)) x0 x1 x2  σ = some r) : lm_rn sc d lm_m153.2.2.2.2.1 (lm_reg lm_m153.2.2.2.2.2) (0, [(0, .ref x0), (1, .int x1), (2, .int x2)], []) σ = some r := lm_rn_of h
/-- LatticeSuiteModel.permute, from 0 on -/
noncomputable def lm_q154_0 (sc : lm_H) (A : Nat → List Value → lm_M lm_R) (B : lm_F → lm_M lm_R) (x0 : Nat) : lm_M lm_R :=
  B (2, [(0, .ref x0), (1, .int (Int32.ofInt 0))], [])
set_option maxRecDepth 100000 in
theorem lm_e154_0 {sc : lm_H} {d : Nat} {x0 : Nat} {σ : lm_S} {r : Except Nat lm_R × lm_S} (h : lm_q154_0 sc (lm_cal sc d) (lm_rn sc d lm_m154.2.2.2.2.1 (lm_reg lm_m154.2.2.2.2.2)) x0  σ = some r) : lm_rn sc d lm_m154.2.2.2.2.1 (lm_reg lm_m154.2.2.2.2.2) (0, [(0, .ref x0)], []) σ = some r := lm_rn_of h
/-- LatticeSuiteModel.permute, from 2 on -/
noncomputable def lm_q154_2 (sc : lm_H) (A : Nat → List Value → lm_M lm_R) (B : lm_F → lm_M lm_R) (x0 : Nat) (x1 : Int32) : lm_M lm_R :=
  lm_if .ge x1 (Int32.ofInt 24) (lm_ret none) (B (10, [(0, .ref x0), (1, .int x1), (2, .int (Int32.ofInt 0))], []))
set_option maxRecDepth 100000 in
theorem lm_e154_2 {sc : lm_H} {d : Nat} {x0 : Nat} {x1 : Int32} {σ : lm_S} {r : Except Nat lm_R × lm_S} (h : lm_q154_2 sc (lm_cal sc d) (lm_rn sc d lm_m154.2.2.2.2.1 (lm_reg lm_m154.2.2.2.2.2)) x0 x1  σ = some r) : lm_rn sc d lm_m154.2.2.2.2.1 (lm_reg lm_m154.2.2.2.2.2) (2, [(0, .ref x0), (1, .int x1)], []) σ = some r := lm_rn_of h
/-- LatticeSuiteModel.permute, from 10 on -/
noncomputable def lm_q154_10 (sc : lm_H) (A : Nat → List Value → lm_M lm_R) (B : lm_F → lm_M lm_R) (x0 : Nat) (x1 : Int32) (x2 : Int32) : lm_M lm_R :=
  lm_if .ge x2 (Int32.ofInt 5) (B (62, [(0, .ref x0), (1, .int x1), (2, .int (Int32.ofInt 0))], [])) (lm_bind (lm_gR 4462 x0) fun v1 =>
  lm_bind (lm_last v1 x2 (Int64.ofNat 0)) fun _ =>
  B (24, [(0, .ref x0), (1, .int x1), (2, .int x2), (3, .int (Int32.ofInt 0))], []))
set_option maxRecDepth 100000 in
theorem lm_e154_10 {sc : lm_H} {d : Nat} {x0 : Nat} {x1 : Int32} {x2 : Int32} {σ : lm_S} {r : Except Nat lm_R × lm_S} (h : lm_q154_10 sc (lm_cal sc d) (lm_rn sc d lm_m154.2.2.2.2.1 (lm_reg lm_m154.2.2.2.2.2)) x0 x1 x2  σ = some r) : lm_rn sc d lm_m154.2.2.2.2.1 (lm_reg lm_m154.2.2.2.2.2) (10, [(0, .ref x0), (1, .int x1), (2, .int x2)], []) σ = some r := lm_rn_of h
/-- LatticeSuiteModel.permute, from 62 on -/
noncomputable def lm_q154_62 (sc : lm_H) (A : Nat → List Value → lm_M lm_R) (B : lm_F → lm_M lm_R) (x0 : Nat) (x1 : Int32) (x2 : Int32) : lm_M lm_R :=
  lm_if .ge x2 (Int32.ofInt 5) (B (126, [(0, .ref x0), (1, .int x1), (2, .int (Int32.ofInt 0))], [])) (B (69, [(0, .ref x0), (1, .int x1), (2, .int x2), (3, .int (Int32.ofInt 0))], []))
set_option maxRecDepth 100000 in
theorem lm_e154_62 {sc : lm_H} {d : Nat} {x0 : Nat} {x1 : Int32} {x2 : Int32} {σ : lm_S} {r : Except Nat lm_R × lm_S} (h : lm_q154_62 sc (lm_cal sc d) (lm_rn sc d lm_m154.2.2.2.2.1 (lm_reg lm_m154.2.2.2.2.2)) x0 x1 x2  σ = some r) : lm_rn sc d lm_m154.2.2.2.2.1 (lm_reg lm_m154.2.2.2.2.2) (62, [(0, .ref x0), (1, .int x1), (2, .int x2)], []) σ = some r := lm_rn_of h
/-- LatticeSuiteModel.permute, from 24 on -/
noncomputable def lm_q154_24 (sc : lm_H) (A : Nat → List Value → lm_M lm_R) (B : lm_F → lm_M lm_R) (x0 : Nat) (x1 : Int32) (x2 : Int32) (x3 : Int32) : lm_M lm_R :=
  lm_if .ge x3 (Int32.ofInt 5) (B (10, [(0, .ref x0), (1, .int x1), (2, .int (x2 + Int32.ofInt 1))], [])) (lm_bind (lm_gR 4462 x0) fun v1 =>
  lm_bind (lm_lald sc v1 x2) fun v2 =>
  lm_bind (lm_gR 4454 x0) fun v3 =>
  lm_bind (lm_lald sc v3 (x2 + ((Int32.ofInt 5) * x3))) fun v4 =>
  lm_bind (lm_last v1 x2 (v2 ^^^ v4)) fun _ =>
  B (24, [(0, .ref x0), (1, .int x1), (2, .int x2), (3, .int (x3 + Int32.ofInt 1))], []))
set_option maxRecDepth 100000 in
theorem lm_e154_24 {sc : lm_H} {d : Nat} {x0 : Nat} {x1 : Int32} {x2 : Int32} {x3 : Int32} {σ : lm_S} {r : Except Nat lm_R × lm_S} (h : lm_q154_24 sc (lm_cal sc d) (lm_rn sc d lm_m154.2.2.2.2.1 (lm_reg lm_m154.2.2.2.2.2)) x0 x1 x2 x3  σ = some r) : lm_rn sc d lm_m154.2.2.2.2.1 (lm_reg lm_m154.2.2.2.2.2) (24, [(0, .ref x0), (1, .int x1), (2, .int x2), (3, .int x3)], []) σ = some r := lm_rn_of h
/-- LatticeSuiteModel.permute, from 126 on -/
noncomputable def lm_q154_126 (sc : lm_H) (A : Nat → List Value → lm_M lm_R) (B : lm_F → lm_M lm_R) (x0 : Nat) (x1 : Int32) (x2 : Int32) : lm_M lm_R :=
  lm_if .ge x2 (Int32.ofInt 5) (B (193, [(0, .ref x0), (1, .int x1), (2, .int (Int32.ofInt 0))], [])) (B (133, [(0, .ref x0), (1, .int x1), (2, .int x2), (3, .int (Int32.ofInt 0))], []))
set_option maxRecDepth 100000 in
theorem lm_e154_126 {sc : lm_H} {d : Nat} {x0 : Nat} {x1 : Int32} {x2 : Int32} {σ : lm_S} {r : Except Nat lm_R × lm_S} (h : lm_q154_126 sc (lm_cal sc d) (lm_rn sc d lm_m154.2.2.2.2.1 (lm_reg lm_m154.2.2.2.2.2)) x0 x1 x2  σ = some r) : lm_rn sc d lm_m154.2.2.2.2.1 (lm_reg lm_m154.2.2.2.2.2) (126, [(0, .ref x0), (1, .int x1), (2, .int x2)], []) σ = some r := lm_rn_of h
/-- LatticeSuiteModel.permute, from 69 on -/
noncomputable def lm_q154_69 (sc : lm_H) (A : Nat → List Value → lm_M lm_R) (B : lm_F → lm_M lm_R) (x0 : Nat) (x1 : Int32) (x2 : Int32) (x3 : Int32) : lm_M lm_R :=
  lm_if .ge x3 (Int32.ofInt 5) (B (62, [(0, .ref x0), (1, .int x1), (2, .int (x2 + Int32.ofInt 1))], [])) (lm_bind (lm_gR 4454 x0) fun v1 =>
  lm_bind (lm_lald sc v1 (x2 + ((Int32.ofInt 5) * x3))) fun v2 =>
  lm_bind (lm_gR 4462 x0) fun v3 =>
  lm_when (¬ (Int32.ofInt 5) = 0) inferInstance (lm_bind (lm_lald sc v3 (lm_rem (x2 + (Int32.ofInt 4)) (Int32.ofInt 5))) fun v4 =>
  lm_bind (lm_gR 4462 x0) fun v5 =>
  lm_when (¬ (Int32.ofInt 5) = 0) inferInstance (lm_bind (lm_lald sc v5 (lm_rem (x2 + (Int32.ofInt 1)) (Int32.ofInt 5))) fun v6 =>
  lm_bind (lm_asL (A 224 [.long v6, .int (Int32.ofInt 1)])) fun v7 =>
  lm_bind (lm_last v1 (x2 + ((Int32.ofInt 5) * x3)) (v2 ^^^ (v4 ^^^ v7))) fun _ =>
  B (69, [(0, .ref x0), (1, .int x1), (2, .int x2), (3, .int (x3 + Int32.ofInt 1))], []))))
set_option maxRecDepth 100000 in
theorem lm_e154_69 {sc : lm_H} {d : Nat} {x0 : Nat} {x1 : Int32} {x2 : Int32} {x3 : Int32} {σ : lm_S} {r : Except Nat lm_R × lm_S} (h : lm_q154_69 sc (lm_cal sc d) (lm_rn sc d lm_m154.2.2.2.2.1 (lm_reg lm_m154.2.2.2.2.2)) x0 x1 x2 x3  σ = some r) : lm_rn sc d lm_m154.2.2.2.2.1 (lm_reg lm_m154.2.2.2.2.2) (69, [(0, .ref x0), (1, .int x1), (2, .int x2), (3, .int x3)], []) σ = some r := lm_rn_of h
/-- LatticeSuiteModel.permute, from 193 on -/
noncomputable def lm_q154_193 (sc : lm_H) (A : Nat → List Value → lm_M lm_R) (B : lm_F → lm_M lm_R) (x0 : Nat) (x1 : Int32) (x2 : Int32) : lm_M lm_R :=
  lm_if .ge x2 (Int32.ofInt 5) (lm_bind (lm_gR 4454 x0) fun v1 =>
  lm_bind (lm_lald sc v1 (Int32.ofInt 0)) fun v2 =>
  lm_bind (lm_gR 4450 x0) fun v3 =>
  lm_bind (lm_lald sc v3 x1) fun v4 =>
  lm_bind (lm_last v1 (Int32.ofInt 0) (v2 ^^^ v4)) fun _ =>
  B (2, [(0, .ref x0), (1, .int (x1 + Int32.ofInt 1))], [])) (B (200, [(0, .ref x0), (1, .int x1), (2, .int x2), (3, .int (Int32.ofInt 0))], []))
set_option maxRecDepth 100000 in
theorem lm_e154_193 {sc : lm_H} {d : Nat} {x0 : Nat} {x1 : Int32} {x2 : Int32} {σ : lm_S} {r : Except Nat lm_R × lm_S} (h : lm_q154_193 sc (lm_cal sc d) (lm_rn sc d lm_m154.2.2.2.2.1 (lm_reg lm_m154.2.2.2.2.2)) x0 x1 x2  σ = some r) : lm_rn sc d lm_m154.2.2.2.2.1 (lm_reg lm_m154.2.2.2.2.2) (193, [(0, .ref x0), (1, .int x1), (2, .int x2)], []) σ = some r := lm_rn_of h
/-- LatticeSuiteModel.permute, from 133 on -/
noncomputable def lm_q154_133 (sc : lm_H) (A : Nat → List Value → lm_M lm_R) (B : lm_F → lm_M lm_R) (x0 : Nat) (x1 : Int32) (x2 : Int32) (x3 : Int32) : lm_M lm_R :=
  lm_if .ge x3 (Int32.ofInt 5) (B (126, [(0, .ref x0), (1, .int x1), (2, .int (x2 + Int32.ofInt 1))], [])) (lm_bind (lm_gR 4458 x0) fun v1 =>
  lm_when (¬ (Int32.ofInt 5) = 0) inferInstance (lm_bind (lm_gR 4454 x0) fun v2 =>
  lm_bind (lm_lald sc v2 (x2 + ((Int32.ofInt 5) * x3))) fun v3 =>
  lm_bind (lm_gR 4446 x0) fun v4 =>
  lm_bind (lm_iald sc v4 (x2 + ((Int32.ofInt 5) * x3))) fun v5 =>
  lm_bind (lm_asL (A 224 [.long v3, .int v5])) fun v6 =>
  lm_bind (lm_last v1 (x3 + ((Int32.ofInt 5) * (lm_rem (((Int32.ofInt 2) * x2) + ((Int32.ofInt 3) * x3)) (Int32.ofInt 5)))) v6) fun _ =>
  B (133, [(0, .ref x0), (1, .int x1), (2, .int x2), (3, .int (x3 + Int32.ofInt 1))], [])))
set_option maxRecDepth 100000 in
theorem lm_e154_133 {sc : lm_H} {d : Nat} {x0 : Nat} {x1 : Int32} {x2 : Int32} {x3 : Int32} {σ : lm_S} {r : Except Nat lm_R × lm_S} (h : lm_q154_133 sc (lm_cal sc d) (lm_rn sc d lm_m154.2.2.2.2.1 (lm_reg lm_m154.2.2.2.2.2)) x0 x1 x2 x3  σ = some r) : lm_rn sc d lm_m154.2.2.2.2.1 (lm_reg lm_m154.2.2.2.2.2) (133, [(0, .ref x0), (1, .int x1), (2, .int x2), (3, .int x3)], []) σ = some r := lm_rn_of h
/-- LatticeSuiteModel.permute, from 200 on -/
noncomputable def lm_q154_200 (sc : lm_H) (A : Nat → List Value → lm_M lm_R) (B : lm_F → lm_M lm_R) (x0 : Nat) (x1 : Int32) (x2 : Int32) (x3 : Int32) : lm_M lm_R :=
  lm_if .ge x3 (Int32.ofInt 5) (B (193, [(0, .ref x0), (1, .int x1), (2, .int (x2 + Int32.ofInt 1))], [])) (lm_bind (lm_gR 4454 x0) fun v1 =>
  lm_bind (lm_gR 4458 x0) fun v2 =>
  lm_bind (lm_lald sc v2 (x2 + ((Int32.ofInt 5) * x3))) fun v3 =>
  lm_bind (lm_gR 4458 x0) fun v4 =>
  lm_when (¬ (Int32.ofInt 5) = 0) inferInstance (lm_bind (lm_lald sc v4 ((lm_rem (x2 + (Int32.ofInt 1)) (Int32.ofInt 5)) + ((Int32.ofInt 5) * x3))) fun v5 =>
  lm_bind (lm_gR 4458 x0) fun v6 =>
  lm_when (¬ (Int32.ofInt 5) = 0) inferInstance (lm_bind (lm_lald sc v6 ((lm_rem (x2 + (Int32.ofInt 2)) (Int32.ofInt 5)) + ((Int32.ofInt 5) * x3))) fun v7 =>
  lm_bind (lm_last v1 (x2 + ((Int32.ofInt 5) * x3)) (v3 ^^^ ((v5 ^^^ (Int64.ofNat 18446744073709551615)) &&& v7))) fun _ =>
  B (200, [(0, .ref x0), (1, .int x1), (2, .int x2), (3, .int (x3 + Int32.ofInt 1))], []))))
set_option maxRecDepth 100000 in
theorem lm_e154_200 {sc : lm_H} {d : Nat} {x0 : Nat} {x1 : Int32} {x2 : Int32} {x3 : Int32} {σ : lm_S} {r : Except Nat lm_R × lm_S} (h : lm_q154_200 sc (lm_cal sc d) (lm_rn sc d lm_m154.2.2.2.2.1 (lm_reg lm_m154.2.2.2.2.2)) x0 x1 x2 x3  σ = some r) : lm_rn sc d lm_m154.2.2.2.2.1 (lm_reg lm_m154.2.2.2.2.2) (200, [(0, .ref x0), (1, .int x1), (2, .int x2), (3, .int x3)], []) σ = some r := lm_rn_of h
/-- LatticeSuiteModel.compress32, from 0 on -/
noncomputable def lm_q155_0 (sc : lm_H) (A : Nat → List Value → lm_M lm_R) (B : lm_F → lm_M lm_R) (x0 : Nat) : lm_M lm_R :=
  B (2, [(0, .ref x0), (1, .int (Int32.ofInt 0))], [])
set_option maxRecDepth 100000 in
theorem lm_e155_0 {sc : lm_H} {d : Nat} {x0 : Nat} {σ : lm_S} {r : Except Nat lm_R × lm_S} (h : lm_q155_0 sc (lm_cal sc d) (lm_rn sc d lm_m155.2.2.2.2.1 (lm_reg lm_m155.2.2.2.2.2)) x0  σ = some r) : lm_rn sc d lm_m155.2.2.2.2.1 (lm_reg lm_m155.2.2.2.2.2) (0, [(0, .ref x0)], []) σ = some r := lm_rn_of h
/-- LatticeSuiteModel.compress32, from 2 on -/
noncomputable def lm_q155_2 (sc : lm_H) (A : Nat → List Value → lm_M lm_R) (B : lm_F → lm_M lm_R) (x0 : Nat) (x1 : Int32) : lm_M lm_R :=
  lm_if .ge x1 (Int32.ofInt 16) (B (60, [(0, .ref x0), (1, .int (Int32.ofInt 16))], [])) (B (12, [(0, .ref x0), (1, .int x1), (2, .int (Int32.ofInt 0)), (3, .int (Int32.ofInt 0))], []))
set_option maxRecDepth 100000 in
theorem lm_e155_2 {sc : lm_H} {d : Nat} {x0 : Nat} {x1 : Int32} {σ : lm_S} {r : Except Nat lm_R × lm_S} (h : lm_q155_2 sc (lm_cal sc d) (lm_rn sc d lm_m155.2.2.2.2.1 (lm_reg lm_m155.2.2.2.2.2)) x0 x1  σ = some r) : lm_rn sc d lm_m155.2.2.2.2.1 (lm_reg lm_m155.2.2.2.2.2) (2, [(0, .ref x0), (1, .int x1)], []) σ = some r := lm_rn_of h
/-- LatticeSuiteModel.compress32, from 60 on -/
noncomputable def lm_q155_60 (sc : lm_H) (A : Nat → List Value → lm_M lm_R) (B : lm_F → lm_M lm_R) (x0 : Nat) (x1 : Int32) : lm_M lm_R :=
  lm_if .ge x1 (Int32.ofInt 64) (lm_bind (lm_gR 4454 x0) fun v1 =>
  lm_bind (lm_lald sc v1 (Int32.ofInt 0)) fun v2 =>
  lm_bind (lm_gR 4454 x0) fun v3 =>
  lm_bind (lm_lald sc v3 (Int32.ofInt 1)) fun v4 =>
  lm_bind (lm_gR 4454 x0) fun v5 =>
  lm_bind (lm_lald sc v5 (Int32.ofInt 2)) fun v6 =>
  lm_bind (lm_gR 4454 x0) fun v7 =>
  lm_bind (lm_lald sc v7 (Int32.ofInt 3)) fun v8 =>
  lm_bind (lm_gR 4454 x0) fun v9 =>
  lm_bind (lm_lald sc v9 (Int32.ofInt 4)) fun v10 =>
  lm_bind (lm_gR 4454 x0) fun v11 =>
  lm_bind (lm_lald sc v11 (Int32.ofInt 5)) fun v12 =>
  lm_bind (lm_gR 4454 x0) fun v13 =>
  lm_bind (lm_lald sc v13 (Int32.ofInt 6)) fun v14 =>
  lm_bind (lm_gR 4454 x0) fun v15 =>
  lm_bind (lm_lald sc v15 (Int32.ofInt 7)) fun v16 =>
  B (232, [(0, .ref x0), (1, .int (Int64.toInt32 v2)), (2, .int (Int64.toInt32 v4)), (3, .int (Int64.toInt32 v6)), (4, .int (Int64.toInt32 v8)), (5, .int (Int64.toInt32 v10)), (6, .int (Int64.toInt32 v12)), (7, .int (Int64.toInt32 v14)), (8, .int (Int64.toInt32 v16)), (9, .int (Int32.ofInt 0))], [])) (lm_bind (lm_gR 4466 x0) fun v17 =>
  lm_bind (lm_lald sc v17 (x1 - (Int32.ofInt 2))) fun v18 =>
  lm_bind (lm_gR 4466 x0) fun v19 =>
  lm_bind (lm_lald sc v19 (x1 - (Int32.ofInt 15))) fun v20 =>
  lm_bind (lm_gR 4466 x0) fun v21 =>
  lm_bind (lm_asI (A 225 [.int (Int64.toInt32 v18), .int (Int32.ofInt 17)])) fun v22 =>
  lm_bind (lm_asI (A 225 [.int (Int64.toInt32 v18), .int (Int32.ofInt 19)])) fun v23 =>
  lm_bind (lm_gR 4466 x0) fun v24 =>
  lm_bind (lm_lald sc v24 (x1 - (Int32.ofInt 7))) fun v25 =>
  lm_bind (lm_asI (A 225 [.int (Int64.toInt32 v20), .int (Int32.ofInt 7)])) fun v26 =>
  lm_bind (lm_asI (A 225 [.int (Int64.toInt32 v20), .int (Int32.ofInt 18)])) fun v27 =>
  lm_bind (lm_gR 4466 x0) fun v28 =>
  lm_bind (lm_lald sc v28 (x1 - (Int32.ofInt 16))) fun v29 =>
  lm_bind (lm_last v21 x1 (Int32.toInt64 (((((v22 ^^^ v23) ^^^ (lm_us (Int64.toInt32 v18) (Int32.ofInt 10))) + (Int64.toInt32 v25)) + ((v26 ^^^ v27) ^^^ (lm_us (Int64.toInt32 v20) (Int32.ofInt 3)))) + (Int64.toInt32 v29)))) fun _ =>
  B (60, [(0, .ref x0), (1, .int (x1 + Int32.ofInt 1))], []))
set_option maxRecDepth 100000 in
theorem lm_e155_60 {sc : lm_H} {d : Nat} {x0 : Nat} {x1 : Int32} {σ : lm_S} {r : Except Nat lm_R × lm_S} (h : lm_q155_60 sc (lm_cal sc d) (lm_rn sc d lm_m155.2.2.2.2.1 (lm_reg lm_m155.2.2.2.2.2)) x0 x1  σ = some r) : lm_rn sc d lm_m155.2.2.2.2.1 (lm_reg lm_m155.2.2.2.2.2) (60, [(0, .ref x0), (1, .int x1)], []) σ = some r := lm_rn_of h
/-- LatticeSuiteModel.compress32, from 12 on -/
noncomputable def lm_q155_12 (sc : lm_H) (A : Nat → List Value → lm_M lm_R) (B : lm_F → lm_M lm_R) (x0 : Nat) (x1 : Int32) (x2 : Int32) (x3 : Int32) : lm_M lm_R :=
  lm_if .ge x3 (Int32.ofInt 4) (lm_bind (lm_gR 4466 x0) fun v1 =>
  lm_bind (lm_last v1 x1 (Int32.toInt64 x2)) fun _ =>
  B (2, [(0, .ref x0), (1, .int (x1 + Int32.ofInt 1))], [])) (lm_bind (lm_gR 4470 x0) fun v2 =>
  lm_bind (lm_bald sc v2 (((Int32.ofInt 4) * x1) + x3)) fun v3 =>
  B (12, [(0, .ref x0), (1, .int x1), (2, .int ((x2 <<< ((Int32.ofInt 8) &&& 31)) ||| (v3 &&& (Int32.ofInt 255)))), (3, .int (x3 + Int32.ofInt 1))], []))
set_option maxRecDepth 100000 in
theorem lm_e155_12 {sc : lm_H} {d : Nat} {x0 : Nat} {x1 : Int32} {x2 : Int32} {x3 : Int32} {σ : lm_S} {r : Except Nat lm_R × lm_S} (h : lm_q155_12 sc (lm_cal sc d) (lm_rn sc d lm_m155.2.2.2.2.1 (lm_reg lm_m155.2.2.2.2.2)) x0 x1 x2 x3  σ = some r) : lm_rn sc d lm_m155.2.2.2.2.1 (lm_reg lm_m155.2.2.2.2.2) (12, [(0, .ref x0), (1, .int x1), (2, .int x2), (3, .int x3)], []) σ = some r := lm_rn_of h
/-- LatticeSuiteModel.compress32, from 232 on -/
noncomputable def lm_q155_232 (sc : lm_H) (A : Nat → List Value → lm_M lm_R) (B : lm_F → lm_M lm_R) (x0 : Nat) (x1 : Int32) (x2 : Int32) (x3 : Int32) (x4 : Int32) (x5 : Int32) (x6 : Int32) (x7 : Int32) (x8 : Int32) (x9 : Int32) : lm_M lm_R :=
  lm_if .ge x9 (Int32.ofInt 64) (lm_bind (lm_gR 4454 x0) fun v1 =>
  lm_bind (lm_lald sc v1 (Int32.ofInt 0)) fun v2 =>
  lm_bind (lm_last v1 (Int32.ofInt 0) (v2 + (Int32.toInt64 x1))) fun _ =>
  lm_bind (lm_gR 4454 x0) fun v3 =>
  lm_bind (lm_lald sc v3 (Int32.ofInt 1)) fun v4 =>
  lm_bind (lm_last v3 (Int32.ofInt 1) (v4 + (Int32.toInt64 x2))) fun _ =>
  lm_bind (lm_gR 4454 x0) fun v5 =>
  lm_bind (lm_lald sc v5 (Int32.ofInt 2)) fun v6 =>
  lm_bind (lm_last v5 (Int32.ofInt 2) (v6 + (Int32.toInt64 x3))) fun _ =>
  lm_bind (lm_gR 4454 x0) fun v7 =>
  lm_bind (lm_lald sc v7 (Int32.ofInt 3)) fun v8 =>
  lm_bind (lm_last v7 (Int32.ofInt 3) (v8 + (Int32.toInt64 x4))) fun _ =>
  lm_bind (lm_gR 4454 x0) fun v9 =>
  lm_bind (lm_lald sc v9 (Int32.ofInt 4)) fun v10 =>
  lm_bind (lm_last v9 (Int32.ofInt 4) (v10 + (Int32.toInt64 x5))) fun _ =>
  lm_bind (lm_gR 4454 x0) fun v11 =>
  lm_bind (lm_lald sc v11 (Int32.ofInt 5)) fun v12 =>
  lm_bind (lm_last v11 (Int32.ofInt 5) (v12 + (Int32.toInt64 x6))) fun _ =>
  lm_bind (lm_gR 4454 x0) fun v13 =>
  lm_bind (lm_lald sc v13 (Int32.ofInt 6)) fun v14 =>
  lm_bind (lm_last v13 (Int32.ofInt 6) (v14 + (Int32.toInt64 x7))) fun _ =>
  lm_bind (lm_gR 4454 x0) fun v15 =>
  lm_bind (lm_lald sc v15 (Int32.ofInt 7)) fun v16 =>
  lm_bind (lm_last v15 (Int32.ofInt 7) (v16 + (Int32.toInt64 x8))) fun _ =>
  lm_ret none) (lm_bind (lm_asI (A 225 [.int x5, .int (Int32.ofInt 6)])) fun v17 =>
  lm_bind (lm_asI (A 225 [.int x5, .int (Int32.ofInt 11)])) fun v18 =>
  lm_bind (lm_asI (A 225 [.int x5, .int (Int32.ofInt 25)])) fun v19 =>
  lm_bind (lm_gR 4426 x0) fun v20 =>
  lm_bind (lm_lald sc v20 x9) fun v21 =>
  lm_bind (lm_gR 4466 x0) fun v22 =>
  lm_bind (lm_lald sc v22 x9) fun v23 =>
  lm_bind (lm_asI (A 225 [.int x1, .int (Int32.ofInt 2)])) fun v24 =>
  lm_bind (lm_asI (A 225 [.int x1, .int (Int32.ofInt 13)])) fun v25 =>
  lm_bind (lm_asI (A 225 [.int x1, .int (Int32.ofInt 22)])) fun v26 =>
  B (232, [(0, .ref x0), (1, .int (((((x8 + ((v17 ^^^ v18) ^^^ v19)) + ((x5 &&& x6) ^^^ ((x5 ^^^ (Int32.ofInt (-1))) &&& x7))) + (Int64.toInt32 (lm_uL v21 (Int32.ofInt 32)))) + (Int64.toInt32 v23)) + (((v24 ^^^ v25) ^^^ v26) + (((x1 &&& x2) ^^^ (x1 &&& x3)) ^^^ (x2 &&& x3))))), (2, .int x1), (3, .int x2), (4, .int x3), (5, .int (x4 + ((((x8 + ((v17 ^^^ v18) ^^^ v19)) + ((x5 &&& x6) ^^^ ((x5 ^^^ (Int32.ofInt (-1))) &&& x7))) + (Int64.toInt32 (lm_uL v21 (Int32.ofInt 32)))) + (Int64.toInt32 v23)))), (6, .int x5), (7, .int x6), (8, .int x7), (9, .int (x9 + Int32.ofInt 1))], []))
set_option maxRecDepth 100000 in
theorem lm_e155_232 {sc : lm_H} {d : Nat} {x0 : Nat} {x1 : Int32} {x2 : Int32} {x3 : Int32} {x4 : Int32} {x5 : Int32} {x6 : Int32} {x7 : Int32} {x8 : Int32} {x9 : Int32} {σ : lm_S} {r : Except Nat lm_R × lm_S} (h : lm_q155_232 sc (lm_cal sc d) (lm_rn sc d lm_m155.2.2.2.2.1 (lm_reg lm_m155.2.2.2.2.2)) x0 x1 x2 x3 x4 x5 x6 x7 x8 x9  σ = some r) : lm_rn sc d lm_m155.2.2.2.2.1 (lm_reg lm_m155.2.2.2.2.2) (232, [(0, .ref x0), (1, .int x1), (2, .int x2), (3, .int x3), (4, .int x4), (5, .int x5), (6, .int x6), (7, .int x7), (8, .int x8), (9, .int x9)], []) σ = some r := lm_rn_of h
/-- LatticeSuiteModel.compress64, from 0 on -/
noncomputable def lm_q156_0 (sc : lm_H) (A : Nat → List Value → lm_M lm_R) (B : lm_F → lm_M lm_R) (x0 : Nat) : lm_M lm_R :=
  B (2, [(0, .ref x0), (1, .int (Int32.ofInt 0))], [])
set_option maxRecDepth 100000 in
theorem lm_e156_0 {sc : lm_H} {d : Nat} {x0 : Nat} {σ : lm_S} {r : Except Nat lm_R × lm_S} (h : lm_q156_0 sc (lm_cal sc d) (lm_rn sc d lm_m156.2.2.2.2.1 (lm_reg lm_m156.2.2.2.2.2)) x0  σ = some r) : lm_rn sc d lm_m156.2.2.2.2.1 (lm_reg lm_m156.2.2.2.2.2) (0, [(0, .ref x0)], []) σ = some r := lm_rn_of h
/-- LatticeSuiteModel.compress64, from 2 on -/
noncomputable def lm_q156_2 (sc : lm_H) (A : Nat → List Value → lm_M lm_R) (B : lm_F → lm_M lm_R) (x0 : Nat) (x1 : Int32) : lm_M lm_R :=
  lm_if .ge x1 (Int32.ofInt 16) (B (70, [(0, .ref x0), (1, .int (Int32.ofInt 16))], [])) (lm_bind (lm_gR 4466 x0) fun v1 =>
  lm_bind (lm_last v1 x1 (Int64.ofNat 0)) fun _ =>
  B (17, [(0, .ref x0), (1, .int x1), (2, .int (Int32.ofInt 0))], []))
set_option maxRecDepth 100000 in
theorem lm_e156_2 {sc : lm_H} {d : Nat} {x0 : Nat} {x1 : Int32} {σ : lm_S} {r : Except Nat lm_R × lm_S} (h : lm_q156_2 sc (lm_cal sc d) (lm_rn sc d lm_m156.2.2.2.2.1 (lm_reg lm_m156.2.2.2.2.2)) x0 x1  σ = some r) : lm_rn sc d lm_m156.2.2.2.2.1 (lm_reg lm_m156.2.2.2.2.2) (2, [(0, .ref x0), (1, .int x1)], []) σ = some r := lm_rn_of h
/-- LatticeSuiteModel.compress64, from 70 on -/
noncomputable def lm_q156_70 (sc : lm_H) (A : Nat → List Value → lm_M lm_R) (B : lm_F → lm_M lm_R) (x0 : Nat) (x1 : Int32) : lm_M lm_R :=
  lm_if .ge x1 (Int32.ofInt 80) (lm_bind (lm_gR 4454 x0) fun v1 =>
  lm_bind (lm_lald sc v1 (Int32.ofInt 0)) fun v2 =>
  lm_bind (lm_gR 4454 x0) fun v3 =>
  lm_bind (lm_lald sc v3 (Int32.ofInt 1)) fun v4 =>
  lm_bind (lm_gR 4454 x0) fun v5 =>
  lm_bind (lm_lald sc v5 (Int32.ofInt 2)) fun v6 =>
  lm_bind (lm_gR 4454 x0) fun v7 =>
  lm_bind (lm_lald sc v7 (Int32.ofInt 3)) fun v8 =>
  lm_bind (lm_gR 4454 x0) fun v9 =>
  lm_bind (lm_lald sc v9 (Int32.ofInt 4)) fun v10 =>
  lm_bind (lm_gR 4454 x0) fun v11 =>
  lm_bind (lm_lald sc v11 (Int32.ofInt 5)) fun v12 =>
  lm_bind (lm_gR 4454 x0) fun v13 =>
  lm_bind (lm_lald sc v13 (Int32.ofInt 6)) fun v14 =>
  lm_bind (lm_gR 4454 x0) fun v15 =>
  lm_bind (lm_lald sc v15 (Int32.ofInt 7)) fun v16 =>
  B (234, [(0, .ref x0), (1, .long v2), (3, .long v4), (5, .long v6), (7, .long v8), (9, .long v10), (11, .long v12), (13, .long v14), (15, .long v16), (17, .int (Int32.ofInt 0))], [])) (lm_bind (lm_gR 4466 x0) fun v17 =>
  lm_bind (lm_lald sc v17 (x1 - (Int32.ofInt 2))) fun v18 =>
  lm_bind (lm_gR 4466 x0) fun v19 =>
  lm_bind (lm_lald sc v19 (x1 - (Int32.ofInt 15))) fun v20 =>
  lm_bind (lm_gR 4466 x0) fun v21 =>
  lm_bind (lm_asL (A 226 [.long v18, .int (Int32.ofInt 19)])) fun v22 =>
  lm_bind (lm_asL (A 226 [.long v18, .int (Int32.ofInt 61)])) fun v23 =>
  lm_bind (lm_gR 4466 x0) fun v24 =>
  lm_bind (lm_lald sc v24 (x1 - (Int32.ofInt 7))) fun v25 =>
  lm_bind (lm_asL (A 226 [.long v20, .int (Int32.ofInt 1)])) fun v26 =>
  lm_bind (lm_asL (A 226 [.long v20, .int (Int32.ofInt 8)])) fun v27 =>
  lm_bind (lm_gR 4466 x0) fun v28 =>
  lm_bind (lm_lald sc v28 (x1 - (Int32.ofInt 16))) fun v29 =>
  lm_bind (lm_last v21 x1 (((((v22 ^^^ v23) ^^^ (lm_uL v18 (Int32.ofInt 6))) + v25) + ((v26 ^^^ v27) ^^^ (lm_uL v20 (Int32.ofInt 7)))) + v29)) fun _ =>
  B (70, [(0, .ref x0), (1, .int (x1 + Int32.ofInt 1))], []))
set_option maxRecDepth 100000 in
theorem lm_e156_70 {sc : lm_H} {d : Nat} {x0 : Nat} {x1 : Int32} {σ : lm_S} {r : Except Nat lm_R × lm_S} (h : lm_q156_70 sc (lm_cal sc d) (lm_rn sc d lm_m156.2.2.2.2.1 (lm_reg lm_m156.2.2.2.2.2)) x0 x1  σ = some r) : lm_rn sc d lm_m156.2.2.2.2.1 (lm_reg lm_m156.2.2.2.2.2) (70, [(0, .ref x0), (1, .int x1)], []) σ = some r := lm_rn_of h
/-- LatticeSuiteModel.compress64, from 17 on -/
noncomputable def lm_q156_17 (sc : lm_H) (A : Nat → List Value → lm_M lm_R) (B : lm_F → lm_M lm_R) (x0 : Nat) (x1 : Int32) (x2 : Int32) : lm_M lm_R :=
  lm_if .ge x2 (Int32.ofInt 8) (B (2, [(0, .ref x0), (1, .int (x1 + Int32.ofInt 1))], [])) (lm_bind (lm_gR 4466 x0) fun v1 =>
  lm_bind (lm_gR 4466 x0) fun v2 =>
  lm_bind (lm_lald sc v2 x1) fun v3 =>
  lm_bind (lm_gR 4470 x0) fun v4 =>
  lm_bind (lm_bald sc v4 (((Int32.ofInt 8) * x1) + x2)) fun v5 =>
  lm_bind (lm_last v1 x1 ((v3 <<< ((Int32.toInt64 (Int32.ofInt 8)) &&& 63)) ||| ((Int32.toInt64 v5) &&& (Int64.ofNat 255)))) fun _ =>
  B (17, [(0, .ref x0), (1, .int x1), (2, .int (x2 + Int32.ofInt 1))], []))
set_option maxRecDepth 100000 in
theorem lm_e156_17 {sc : lm_H} {d : Nat} {x0 : Nat} {x1 : Int32} {x2 : Int32} {σ : lm_S} {r : Except Nat lm_R × lm_S} (h : lm_q156_17 sc (lm_cal sc d) (lm_rn sc d lm_m156.2.2.2.2.1 (lm_reg lm_m156.2.2.2.2.2)) x0 x1 x2  σ = some r) : lm_rn sc d lm_m156.2.2.2.2.1 (lm_reg lm_m156.2.2.2.2.2) (17, [(0, .ref x0), (1, .int x1), (2, .int x2)], []) σ = some r := lm_rn_of h
/-- LatticeSuiteModel.compress64, from 234 on -/
noncomputable def lm_q156_234 (sc : lm_H) (A : Nat → List Value → lm_M lm_R) (B : lm_F → lm_M lm_R) (x0 : Nat) (x1 : Int64) (x3 : Int64) (x5 : Int64) (x7 : Int64) (x9 : Int64) (x11 : Int64) (x13 : Int64) (x15 : Int64) (x17 : Int32) : lm_M lm_R :=
  lm_if .ge x17 (Int32.ofInt 80) (lm_bind (lm_gR 4454 x0) fun v1 =>
  lm_bind (lm_lald sc v1 (Int32.ofInt 0)) fun v2 =>
  lm_bind (lm_last v1 (Int32.ofInt 0) (v2 + x1)) fun _ =>
  lm_bind (lm_gR 4454 x0) fun v3 =>
  lm_bind (lm_lald sc v3 (Int32.ofInt 1)) fun v4 =>
  lm_bind (lm_last v3 (Int32.ofInt 1) (v4 + x3)) fun _ =>
  lm_bind (lm_gR 4454 x0) fun v5 =>
  lm_bind (lm_lald sc v5 (Int32.ofInt 2)) fun v6 =>
  lm_bind (lm_last v5 (Int32.ofInt 2) (v6 + x5)) fun _ =>
  lm_bind (lm_gR 4454 x0) fun v7 =>
  lm_bind (lm_lald sc v7 (Int32.ofInt 3)) fun v8 =>
  lm_bind (lm_last v7 (Int32.ofInt 3) (v8 + x7)) fun _ =>
  lm_bind (lm_gR 4454 x0) fun v9 =>
  lm_bind (lm_lald sc v9 (Int32.ofInt 4)) fun v10 =>
  lm_bind (lm_last v9 (Int32.ofInt 4) (v10 + x9)) fun _ =>
  lm_bind (lm_gR 4454 x0) fun v11 =>
  lm_bind (lm_lald sc v11 (Int32.ofInt 5)) fun v12 =>
  lm_bind (lm_last v11 (Int32.ofInt 5) (v12 + x11)) fun _ =>
  lm_bind (lm_gR 4454 x0) fun v13 =>
  lm_bind (lm_lald sc v13 (Int32.ofInt 6)) fun v14 =>
  lm_bind (lm_last v13 (Int32.ofInt 6) (v14 + x13)) fun _ =>
  lm_bind (lm_gR 4454 x0) fun v15 =>
  lm_bind (lm_lald sc v15 (Int32.ofInt 7)) fun v16 =>
  lm_bind (lm_last v15 (Int32.ofInt 7) (v16 + x15)) fun _ =>
  lm_ret none) (lm_bind (lm_asL (A 226 [.long x9, .int (Int32.ofInt 14)])) fun v17 =>
  lm_bind (lm_asL (A 226 [.long x9, .int (Int32.ofInt 18)])) fun v18 =>
  lm_bind (lm_asL (A 226 [.long x9, .int (Int32.ofInt 41)])) fun v19 =>
  lm_bind (lm_gR 4426 x0) fun v20 =>
  lm_bind (lm_lald sc v20 x17) fun v21 =>
  lm_bind (lm_gR 4466 x0) fun v22 =>
  lm_bind (lm_lald sc v22 x17) fun v23 =>
  lm_bind (lm_asL (A 226 [.long x1, .int (Int32.ofInt 28)])) fun v24 =>
  lm_bind (lm_asL (A 226 [.long x1, .int (Int32.ofInt 34)])) fun v25 =>
  lm_bind (lm_asL (A 226 [.long x1, .int (Int32.ofInt 39)])) fun v26 =>
  B (234, [(0, .ref x0), (1, .long (((((x15 + ((v17 ^^^ v18) ^^^ v19)) + ((x9 &&& x11) ^^^ ((x9 ^^^ (Int64.ofNat 18446744073709551615)) &&& x13))) + v21) + v23) + (((v24 ^^^ v25) ^^^ v26) + (((x1 &&& x3) ^^^ (x1 &&& x5)) ^^^ (x3 &&& x5))))), (3, .long x1), (5, .long x3), (7, .long x5), (9, .long (x7 + ((((x15 + ((v17 ^^^ v18) ^^^ v19)) + ((x9 &&& x11) ^^^ ((x9 ^^^ (Int64.ofNat 18446744073709551615)) &&& x13))) + v21) + v23))), (11, .long x9), (13, .long x11), (15, .long x13), (17, .int (x17 + Int32.ofInt 1))], []))
set_option maxRecDepth 100000 in
theorem lm_e156_234 {sc : lm_H} {d : Nat} {x0 : Nat} {x1 : Int64} {x3 : Int64} {x5 : Int64} {x7 : Int64} {x9 : Int64} {x11 : Int64} {x13 : Int64} {x15 : Int64} {x17 : Int32} {σ : lm_S} {r : Except Nat lm_R × lm_S} (h : lm_q156_234 sc (lm_cal sc d) (lm_rn sc d lm_m156.2.2.2.2.1 (lm_reg lm_m156.2.2.2.2.2)) x0 x1 x3 x5 x7 x9 x11 x13 x15 x17  σ = some r) : lm_rn sc d lm_m156.2.2.2.2.1 (lm_reg lm_m156.2.2.2.2.2) (234, [(0, .ref x0), (1, .long x1), (3, .long x3), (5, .long x5), (7, .long x7), (9, .long x9), (11, .long x11), (13, .long x13), (15, .long x15), (17, .int x17)], []) σ = some r := lm_rn_of h
/-- LatticeSuiteModel.bitOf, from 0 on -/
noncomputable def lm_q157_0 (sc : lm_H) (A : Nat → List Value → lm_M lm_R) (B : lm_F → lm_M lm_R) (x0 : Nat) (x1 : Int32) (x2 : Int32) : lm_M lm_R :=
  lm_when (¬ (Int32.ofInt 8) = 0) inferInstance (lm_bind (lm_bald sc x0 (x1 + (x2 / (Int32.ofInt 8)))) fun v1 =>
  lm_when (¬ (Int32.ofInt 8) = 0) inferInstance (lm_ret (some (.int ((v1 >>> ((lm_rem x2 (Int32.ofInt 8)) &&& 31)) &&& (Int32.ofInt 1))))))
set_option maxRecDepth 100000 in
theorem lm_e157_0 {sc : lm_H} {d : Nat} {x0 : Nat} {x1 : Int32} {x2 : Int32} {σ : lm_S} {r : Except Nat lm_R × lm_S} (h : lm_q157_0 sc (lm_cal sc d) (lm_rn sc d lm_m157.2.2.2.2.1 (lm_reg lm_m157.2.2.2.2.2)) x0 x1 x2  σ = some r) : lm_rn sc d lm_m157.2.2.2.2.1 (lm_reg lm_m157.2.2.2.2.2) (0, [(0, .ref x0), (1, .int x1), (2, .int x2)], []) σ = some r := lm_rn_of h
/-- LatticeSuiteModel.turned, from 0 on -/
noncomputable def lm_q158_0 (sc : lm_H) (A : Nat → List Value → lm_M lm_R) (B : lm_F → lm_M lm_R) (x0 : Int32) (x1 : Int32) : lm_M lm_R :=
  B (4, [(0, .int x0), (1, .int x1), (2, .int (Int32.ofInt 0)), (3, .int (Int32.ofInt 0))], [])
set_option maxRecDepth 100000 in
theorem lm_e158_0 {sc : lm_H} {d : Nat} {x0 : Int32} {x1 : Int32} {σ : lm_S} {r : Except Nat lm_R × lm_S} (h : lm_q158_0 sc (lm_cal sc d) (lm_rn sc d lm_m158.2.2.2.2.1 (lm_reg lm_m158.2.2.2.2.2)) x0 x1  σ = some r) : lm_rn sc d lm_m158.2.2.2.2.1 (lm_reg lm_m158.2.2.2.2.2) (0, [(0, .int x0), (1, .int x1)], []) σ = some r := lm_rn_of h
/-- LatticeSuiteModel.turned, from 4 on -/
noncomputable def lm_q158_4 (sc : lm_H) (A : Nat → List Value → lm_M lm_R) (B : lm_F → lm_M lm_R) (x0 : Int32) (x1 : Int32) (x2 : Int32) (x3 : Int32) : lm_M lm_R :=
  lm_if .ge x3 x1 (lm_ret (some (.int x2))) (lm_if .ne ((x0 >>> (x3 &&& 31)) &&& (Int32.ofInt 1)) (Int32.ofInt 1) (B (28, [(0, .int x0), (1, .int x1), (2, .int x2), (3, .int x3)], [])) (B (28, [(0, .int x0), (1, .int x1), (2, .int (x2 ||| ((Int32.ofInt 1) <<< (((x1 - (Int32.ofInt 1)) - x3) &&& 31)))), (3, .int x3)], [])))
set_option maxRecDepth 100000 in
theorem lm_e158_4 {sc : lm_H} {d : Nat} {x0 : Int32} {x1 : Int32} {x2 : Int32} {x3 : Int32} {σ : lm_S} {r : Except Nat lm_R × lm_S} (h : lm_q158_4 sc (lm_cal sc d) (lm_rn sc d lm_m158.2.2.2.2.1 (lm_reg lm_m158.2.2.2.2.2)) x0 x1 x2 x3  σ = some r) : lm_rn sc d lm_m158.2.2.2.2.1 (lm_reg lm_m158.2.2.2.2.2) (4, [(0, .int x0), (1, .int x1), (2, .int x2), (3, .int x3)], []) σ = some r := lm_rn_of h
/-- LatticeSuiteModel.turned, from 28 on -/
noncomputable def lm_q158_28 (sc : lm_H) (A : Nat → List Value → lm_M lm_R) (B : lm_F → lm_M lm_R) (x0 : Int32) (x1 : Int32) (x2 : Int32) (x3 : Int32) : lm_M lm_R :=
  B (4, [(0, .int x0), (1, .int x1), (2, .int x2), (3, .int (x3 + Int32.ofInt 1))], [])
set_option maxRecDepth 100000 in
theorem lm_e158_28 {sc : lm_H} {d : Nat} {x0 : Int32} {x1 : Int32} {x2 : Int32} {x3 : Int32} {σ : lm_S} {r : Except Nat lm_R × lm_S} (h : lm_q158_28 sc (lm_cal sc d) (lm_rn sc d lm_m158.2.2.2.2.1 (lm_reg lm_m158.2.2.2.2.2)) x0 x1 x2 x3  σ = some r) : lm_rn sc d lm_m158.2.2.2.2.1 (lm_reg lm_m158.2.2.2.2.2) (28, [(0, .int x0), (1, .int x1), (2, .int x2), (3, .int x3)], []) σ = some r := lm_rn_of h
/-- LatticeSuite$Kem.takesPublic, from 0 on -/
noncomputable def lm_q159_0 (sc : lm_H) (A : Nat → List Value → lm_M lm_R) (B : lm_F → lm_M lm_R) (x0 : Nat) (x1 : Nat) : lm_M lm_R :=
  lm_bind (lm_gI 404 x1) fun v1 =>
  lm_bind (lm_sel [(8, 222)] (some (.ref x0))) fun y2 =>
  lm_bind (lm_asI (A y2 [.ref x0])) fun v3 =>
  lm_if .eq v1 v3 (B (15, [(0, .ref x0), (1, .ref x1), (2, .int (Int32.ofInt 0))], [])) (lm_when ((Int32.ofInt 0) = 0 ∨ (Int32.ofInt 0) = 1) inferInstance (lm_ret (some (.int (Int32.ofInt 0)))))
set_option maxRecDepth 100000 in
theorem lm_e159_0 {sc : lm_H} {d : Nat} {x0 : Nat} {x1 : Nat} {σ : lm_S} {r : Except Nat lm_R × lm_S} (h : lm_q159_0 sc (lm_cal sc d) (lm_rn sc d lm_m159.2.2.2.2.1 (lm_reg lm_m159.2.2.2.2.2)) x0 x1  σ = some r) : lm_rn sc d lm_m159.2.2.2.2.1 (lm_reg lm_m159.2.2.2.2.2) (0, [(0, .ref x0), (1, .ref x1)], []) σ = some r := lm_rn_of h
/-- LatticeSuite$Kem.takesPublic, from 15 on -/
noncomputable def lm_q159_15 (sc : lm_H) (A : Nat → List Value → lm_M lm_R) (B : lm_F → lm_M lm_R) (x0 : Nat) (x1 : Nat) (x2 : Int32) : lm_M lm_R :=
  lm_bind (lm_gI 3248 x0) fun v1 =>
  lm_if .ge x2 v1 (lm_when ((Int32.ofInt 1) = 0 ∨ (Int32.ofInt 1) = 1) inferInstance (lm_ret (some (.int (Int32.ofInt 1))))) (lm_bind (lm_gR 402 x1) fun v2 =>
  lm_bind (lm_gR 3226 x0) fun v3 =>
  lm_bind (lm_asV (A 227 [.ref v2, .int ((Int32.ofInt 384) * x2), .int (Int32.ofInt 12), .ref v3])) fun _ =>
  B (43, [(0, .ref x0), (1, .ref x1), (2, .int x2), (3, .int (Int32.ofInt 0))], []))
set_option maxRecDepth 100000 in
theorem lm_e159_15 {sc : lm_H} {d : Nat} {x0 : Nat} {x1 : Nat} {x2 : Int32} {σ : lm_S} {r : Except Nat lm_R × lm_S} (h : lm_q159_15 sc (lm_cal sc d) (lm_rn sc d lm_m159.2.2.2.2.1 (lm_reg lm_m159.2.2.2.2.2)) x0 x1 x2  σ = some r) : lm_rn sc d lm_m159.2.2.2.2.1 (lm_reg lm_m159.2.2.2.2.2) (15, [(0, .ref x0), (1, .ref x1), (2, .int x2)], []) σ = some r := lm_rn_of h
/-- LatticeSuite$Kem.takesPublic, from 43 on -/
noncomputable def lm_q159_43 (sc : lm_H) (A : Nat → List Value → lm_M lm_R) (B : lm_F → lm_M lm_R) (x0 : Nat) (x1 : Nat) (x2 : Int32) (x3 : Int32) : lm_M lm_R :=
  lm_if .ge x3 (Int32.ofInt 256) (B (15, [(0, .ref x0), (1, .ref x1), (2, .int (x2 + Int32.ofInt 1))], [])) (lm_bind (lm_gR 3226 x0) fun v1 =>
  lm_bind (lm_iald sc v1 x3) fun v2 =>
  lm_if .lt v2 (Int32.ofInt 3329) (B (43, [(0, .ref x0), (1, .ref x1), (2, .int x2), (3, .int (x3 + Int32.ofInt 1))], [])) (lm_when ((Int32.ofInt 0) = 0 ∨ (Int32.ofInt 0) = 1) inferInstance (lm_ret (some (.int (Int32.ofInt 0))))))
set_option maxRecDepth 100000 in
theorem lm_e159_43 {sc : lm_H} {d : Nat} {x0 : Nat} {x1 : Nat} {x2 : Int32} {x3 : Int32} {σ : lm_S} {r : Except Nat lm_R × lm_S} (h : lm_q159_43 sc (lm_cal sc d) (lm_rn sc d lm_m159.2.2.2.2.1 (lm_reg lm_m159.2.2.2.2.2)) x0 x1 x2 x3  σ = some r) : lm_rn sc d lm_m159.2.2.2.2.1 (lm_reg lm_m159.2.2.2.2.2) (43, [(0, .ref x0), (1, .ref x1), (2, .int x2), (3, .int x3)], []) σ = some r := lm_rn_of h
/-- LatticeSuite.checkSupported, from 0 on -/
noncomputable def lm_q160_0 (sc : lm_H) (A : Nat → List Value → lm_M lm_R) (B : lm_F → lm_M lm_R) (x0 : Int32) : lm_M lm_R :=
  lm_if .ne x0 0 (lm_ret none) (lm_thr 16)
set_option maxRecDepth 100000 in
theorem lm_e160_0 {sc : lm_H} {d : Nat} {x0 : Int32} {σ : lm_S} {r : Except Nat lm_R × lm_S} (h : lm_q160_0 sc (lm_cal sc d) (lm_rn sc d lm_m160.2.2.2.2.1 (lm_reg lm_m160.2.2.2.2.2)) x0  σ = some r) : lm_rn sc d lm_m160.2.2.2.2.1 (lm_reg lm_m160.2.2.2.2.2) (0, [(0, .int x0)], []) σ = some r := lm_rn_of h
/-- LatticeSuite$Kem.wrap, from 0 on -/
noncomputable def lm_q161_0 (sc : lm_H) (A : Nat → List Value → lm_M lm_R) (B : lm_F → lm_M lm_R) (x0 : Nat) (x1 : Nat) (x2 : Nat) (x3 : Nat) (x4 : Nat) : lm_M lm_R :=
  lm_bind (lm_gR 3234 x0) fun v1 =>
  lm_bind (lm_sel [(8, 223)] (some (.ref x0))) fun y2 =>
  lm_bind (lm_asV (A y2 [.ref x0, .ref x1, .int (Int32.ofInt 0), .ref v1, .int (Int32.ofInt 0)])) fun _ =>
  lm_bind (lm_gR 3234 x0) fun v3 =>
  lm_bind (lm_sel [(8, 215)] (some (.ref x0))) fun y4 =>
  lm_bind (lm_asV (A y4 [.ref x0, .ref x2, .int (Int32.ofInt 32), .ref v3, .int (Int32.ofInt 0), .int (Int32.ofInt 32)])) fun _ =>
  lm_bind (lm_sel [(8, 228)] (some (.ref x0))) fun y5 =>
  lm_bind (lm_asV (A y5 [.ref x0, .ref x1, .int (Int32.ofInt 0), .ref x2])) fun _ =>
  lm_bind (lm_gR 3246 x0) fun v6 =>
  lm_bind (lm_sel [(8, 229)] (some (.ref x0))) fun y7 =>
  lm_bind (lm_asI (A y7 [.ref x0])) fun v8 =>
  lm_bind (lm_sel [(1, 133)] (some (.ref x3))) fun y9 =>
  lm_bind (lm_asV (A y9 [.ref x3, .ref v6, .int v8])) fun _ =>
  lm_bind (lm_gR 3238 x0) fun v10 =>
  lm_bind (lm_sel [(1, 133)] (some (.ref x4))) fun y11 =>
  lm_bind (lm_asV (A y11 [.ref x4, .ref v10, .int (Int32.ofInt 32)])) fun _ =>
  lm_ret none
set_option maxRecDepth 100000 in
theorem lm_e161_0 {sc : lm_H} {d : Nat} {x0 : Nat} {x1 : Nat} {x2 : Nat} {x3 : Nat} {x4 : Nat} {σ : lm_S} {r : Except Nat lm_R × lm_S} (h : lm_q161_0 sc (lm_cal sc d) (lm_rn sc d lm_m161.2.2.2.2.1 (lm_reg lm_m161.2.2.2.2.2)) x0 x1 x2 x3 x4  σ = some r) : lm_rn sc d lm_m161.2.2.2.2.1 (lm_reg lm_m161.2.2.2.2.2) (0, [(0, .ref x0), (1, .ref x1), (2, .ref x2), (3, .ref x3), (4, .ref x4)], []) σ = some r := lm_rn_of h
/-- LatticeSuite$Kem.takesPacket, from 0 on -/
noncomputable def lm_q162_0 (sc : lm_H) (A : Nat → List Value → lm_M lm_R) (B : lm_F → lm_M lm_R) (x0 : Nat) (x1 : Nat) : lm_M lm_R :=
  lm_bind (lm_gI 404 x1) fun v1 =>
  lm_bind (lm_sel [(8, 229)] (some (.ref x0))) fun y2 =>
  lm_bind (lm_asI (A y2 [.ref x0])) fun v3 =>
  lm_if .ne v1 v3 (lm_when ((Int32.ofInt 0) = 0 ∨ (Int32.ofInt 0) = 1) inferInstance (lm_ret (some (.int (Int32.ofInt 0))))) (lm_when ((Int32.ofInt 1) = 0 ∨ (Int32.ofInt 1) = 1) inferInstance (lm_ret (some (.int (Int32.ofInt 1)))))
set_option maxRecDepth 100000 in
theorem lm_e162_0 {sc : lm_H} {d : Nat} {x0 : Nat} {x1 : Nat} {σ : lm_S} {r : Except Nat lm_R × lm_S} (h : lm_q162_0 sc (lm_cal sc d) (lm_rn sc d lm_m162.2.2.2.2.1 (lm_reg lm_m162.2.2.2.2.2)) x0 x1  σ = some r) : lm_rn sc d lm_m162.2.2.2.2.1 (lm_reg lm_m162.2.2.2.2.2) (0, [(0, .ref x0), (1, .ref x1)], []) σ = some r := lm_rn_of h
/-- LatticeSuite$Kem.takesSecret, from 0 on -/
noncomputable def lm_q163_0 (sc : lm_H) (A : Nat → List Value → lm_M lm_R) (B : lm_F → lm_M lm_R) (x0 : Nat) (x1 : Nat) : lm_M lm_R :=
  lm_bind (lm_gI 404 x1) fun v1 =>
  lm_bind (lm_gI 3248 x0) fun v2 =>
  lm_if .eq v1 (((Int32.ofInt 768) * v2) + (Int32.ofInt 96)) (lm_bind (lm_gR 402 x1) fun v3 =>
  lm_bind (lm_gI 3248 x0) fun v4 =>
  lm_bind (lm_gR 3242 x0) fun v5 =>
  lm_bind (lm_sel [(8, 223)] (some (.ref x0))) fun y6 =>
  lm_bind (lm_asV (A y6 [.ref x0, .ref v3, .int ((Int32.ofInt 384) * v4), .ref v5, .int (Int32.ofInt 0)])) fun _ =>
  lm_bind (lm_gR 3242 x0) fun v7 =>
  lm_bind (lm_gR 402 x1) fun v8 =>
  lm_bind (lm_gI 3248 x0) fun v9 =>
  lm_bind (lm_asI (A 136 [.ref v7, .int (Int32.ofInt 0), .ref v8, .int (((Int32.ofInt 768) * v9) + (Int32.ofInt 32)), .int (Int32.ofInt 32)])) fun v10 =>
  lm_when (v10 = 0 ∨ v10 = 1) inferInstance (lm_ret (some (.int v10)))) (lm_when ((Int32.ofInt 0) = 0 ∨ (Int32.ofInt 0) = 1) inferInstance (lm_ret (some (.int (Int32.ofInt 0)))))
set_option maxRecDepth 100000 in
theorem lm_e163_0 {sc : lm_H} {d : Nat} {x0 : Nat} {x1 : Nat} {σ : lm_S} {r : Except Nat lm_R × lm_S} (h : lm_q163_0 sc (lm_cal sc d) (lm_rn sc d lm_m163.2.2.2.2.1 (lm_reg lm_m163.2.2.2.2.2)) x0 x1  σ = some r) : lm_rn sc d lm_m163.2.2.2.2.1 (lm_reg lm_m163.2.2.2.2.2) (0, [(0, .ref x0), (1, .ref x1)], []) σ = some r := lm_rn_of h
/-- LatticeSuite$Kem.open, from 0 on -/
noncomputable def lm_q164_0 (sc : lm_H) (A : Nat → List Value → lm_M lm_R) (B : lm_F → lm_M lm_R) (x0 : Nat) (x1 : Nat) (x2 : Nat) (x3 : Nat) : lm_M lm_R :=
  lm_bind (lm_gR 402 x2) fun v1 =>
  lm_bind (lm_sel [(8, 230)] (some (.ref x0))) fun y2 =>
  lm_bind (lm_asV (A y2 [.ref x0, .ref x1, .ref v1])) fun _ =>
  lm_bind (lm_gR 3242 x0) fun v3 =>
  lm_bind (lm_gI 3248 x0) fun v4 =>
  lm_bind (lm_sel [(8, 215)] (some (.ref x0))) fun y5 =>
  lm_bind (lm_asV (A y5 [.ref x0, .ref v3, .int (Int32.ofInt 32), .ref x1, .int (((Int32.ofInt 768) * v4) + (Int32.ofInt 32)), .int (Int32.ofInt 32)])) fun _ =>
  lm_bind (lm_gI 3248 x0) fun v6 =>
  lm_bind (lm_gR 3242 x0) fun v7 =>
  lm_bind (lm_sel [(8, 228)] (some (.ref x0))) fun y8 =>
  lm_bind (lm_asV (A y8 [.ref x0, .ref x1, .int ((Int32.ofInt 384) * v6), .ref v7])) fun _ =>
  lm_bind (lm_gR 3246 x0) fun v9 =>
  lm_bind (lm_gR 402 x2) fun v10 =>
  lm_bind (lm_gI 404 x2) fun v11 =>
  lm_bind (lm_asI (A 136 [.ref v9, .int (Int32.ofInt 0), .ref v10, .int (Int32.ofInt 0), .int v11])) fun v12 =>
  lm_if .eq v12 0 (lm_bind (lm_gR 3202 x0) fun v13 =>
  lm_bind (lm_sel [(2, 139)] (some (.ref v13))) fun y14 =>
  lm_bind (lm_asR (A y14 [.ref v13, .int (Int32.ofInt 12)])) fun v15 =>
  lm_bind (lm_gI 3248 x0) fun v16 =>
  lm_bind (lm_sel [(5, 140), (6, 140), (7, 140)] (some (.ref v15))) fun y17 =>
  lm_bind (lm_asV (A y17 [.ref v15, .ref x1, .int (((Int32.ofInt 768) * v16) + (Int32.ofInt 64)), .int (Int32.ofInt 32)])) fun _ =>
  lm_bind (lm_gR 402 x2) fun v18 =>
  lm_bind (lm_gI 404 x2) fun v19 =>
  lm_bind (lm_sel [(5, 140), (6, 140), (7, 140)] (some (.ref v15))) fun y20 =>
  lm_bind (lm_asV (A y20 [.ref v15, .ref v18, .int (Int32.ofInt 0), .int v19])) fun _ =>
  lm_bind (lm_gR 402 x3) fun v21 =>
  lm_bind (lm_sel [(5, 143), (6, 144), (7, 145)] (some (.ref v15))) fun y22 =>
  lm_bind (lm_asV (A y22 [.ref v15, .ref v21, .int (Int32.ofInt 0), .int (Int32.ofInt 32)])) fun _ =>
  lm_bind (lm_putf 404 x3 (.int (Int32.ofInt 32))) fun _ =>
  lm_when ((Int32.ofInt 0) = 0 ∨ (Int32.ofInt 0) = 1) inferInstance (lm_ret (some (.int (Int32.ofInt 0))))) (lm_bind (lm_gR 3238 x0) fun v23 =>
  lm_bind (lm_sel [(1, 133)] (some (.ref x3))) fun y24 =>
  lm_bind (lm_asV (A y24 [.ref x3, .ref v23, .int (Int32.ofInt 32)])) fun _ =>
  lm_when ((Int32.ofInt 1) = 0 ∨ (Int32.ofInt 1) = 1) inferInstance (lm_ret (some (.int (Int32.ofInt 1)))))
set_option maxRecDepth 100000 in
theorem lm_e164_0 {sc : lm_H} {d : Nat} {x0 : Nat} {x1 : Nat} {x2 : Nat} {x3 : Nat} {σ : lm_S} {r : Except Nat lm_R × lm_S} (h : lm_q164_0 sc (lm_cal sc d) (lm_rn sc d lm_m164.2.2.2.2.1 (lm_reg lm_m164.2.2.2.2.2)) x0 x1 x2 x3  σ = some r) : lm_rn sc d lm_m164.2.2.2.2.1 (lm_reg lm_m164.2.2.2.2.2) (0, [(0, .ref x0), (1, .ref x1), (2, .ref x2), (3, .ref x3)], []) σ = some r := lm_rn_of h
/-- LatticeSuite$Dsa.choose, from 0 on -/
noncomputable def lm_q165_0 (sc : lm_H) (A : Nat → List Value → lm_M lm_R) (B : lm_F → lm_M lm_R) (x0 : Nat) (x1 : Int32) : lm_M lm_R :=
  lm_bind (lm_putf 3668 x0 (.int x1)) fun _ =>
  lm_bind (lm_iald sc (lm_B + 7) x1) fun v1 =>
  lm_bind (lm_putf 3672 x0 (.int v1)) fun _ =>
  lm_bind (lm_iald sc (lm_B + 8) x1) fun v2 =>
  lm_bind (lm_putf 3676 x0 (.int v2)) fun _ =>
  lm_ret none
set_option maxRecDepth 100000 in
theorem lm_e165_0 {sc : lm_H} {d : Nat} {x0 : Nat} {x1 : Int32} {σ : lm_S} {r : Except Nat lm_R × lm_S} (h : lm_q165_0 sc (lm_cal sc d) (lm_rn sc d lm_m165.2.2.2.2.1 (lm_reg lm_m165.2.2.2.2.2)) x0 x1  σ = some r) : lm_rn sc d lm_m165.2.2.2.2.1 (lm_reg lm_m165.2.2.2.2.2) (0, [(0, .ref x0), (1, .int x1)], []) σ = some r := lm_rn_of h
/-- LatticeSuite$Dsa.keys, from 0 on -/
noncomputable def lm_q166_0 (sc : lm_H) (A : Nat → List Value → lm_M lm_R) (B : lm_F → lm_M lm_R) (x0 : Nat) (x1 : Nat) (x2 : Nat) (x3 : Nat) : lm_M lm_R :=
  lm_bind (lm_sel [(9, 231)] (some (.ref x0))) fun y1 =>
  lm_bind (lm_asV (A y1 [.ref x0, .ref x1])) fun _ =>
  lm_bind (lm_gR 3650 x0) fun v2 =>
  lm_bind (lm_sel [(9, 232)] (some (.ref x0))) fun y3 =>
  lm_bind (lm_asV (A y3 [.ref x0, .ref v2, .int (Int32.ofInt 0)])) fun _ =>
  B (17, [(0, .ref x0), (2, .ref x2), (3, .ref x3), (4, .int (Int32.ofInt 0))], [])
set_option maxRecDepth 100000 in
theorem lm_e166_0 {sc : lm_H} {d : Nat} {x0 : Nat} {x1 : Nat} {x2 : Nat} {x3 : Nat} {σ : lm_S} {r : Except Nat lm_R × lm_S} (h : lm_q166_0 sc (lm_cal sc d) (lm_rn sc d lm_m166.2.2.2.2.1 (lm_reg lm_m166.2.2.2.2.2)) x0 x1 x2 x3  σ = some r) : lm_rn sc d lm_m166.2.2.2.2.1 (lm_reg lm_m166.2.2.2.2.2) (0, [(0, .ref x0), (1, .ref x1), (2, .ref x2), (3, .ref x3)], []) σ = some r := lm_rn_of h
/-- LatticeSuite$Dsa.keys, from 17 on -/
noncomputable def lm_q166_17 (sc : lm_H) (A : Nat → List Value → lm_M lm_R) (B : lm_F → lm_M lm_R) (x0 : Nat) (x2 : Nat) (x3 : Nat) (x4 : Int32) : lm_M lm_R :=
  lm_bind (lm_gI 3676 x0) fun v1 =>
  lm_bind (lm_gI 3672 x0) fun v2 =>
  lm_if .ge x4 (v1 + v2) (lm_bind (lm_gR 3650 x0) fun v3 =>
  lm_bind (lm_gR 402 x2) fun v4 =>
  lm_bind (lm_copy sc v3 (Int32.ofInt 0) v4 (Int32.ofInt 0) (Int32.ofInt 32)) fun _ =>
  lm_bind (lm_gR 3650 x0) fun v5 =>
  lm_bind (lm_gR 402 x3) fun v6 =>
  lm_bind (lm_copy sc v5 (Int32.ofInt 0) v6 (Int32.ofInt 0) (Int32.ofInt 32)) fun _ =>
  lm_bind (lm_gR 3650 x0) fun v7 =>
  lm_bind (lm_gR 402 x3) fun v8 =>
  lm_bind (lm_copy sc v7 (Int32.ofInt 96) v8 (Int32.ofInt 32) (Int32.ofInt 32)) fun _ =>
  B (105, [(0, .ref x0), (2, .ref x2), (3, .ref x3), (4, .int (Int32.ofInt 128)), (5, .int (Int32.ofInt 0))], [])) (lm_bind (lm_gR 3614 x0) fun v9 =>
  lm_bind (lm_aaR sc v9 x4) fun v10 =>
  lm_bind (lm_sel [(9, 233)] (some (.ref x0))) fun y11 =>
  lm_bind (lm_asV (A y11 [.ref x0, .ref v10, .int x4])) fun _ =>
  B (17, [(0, .ref x0), (2, .ref x2), (3, .ref x3), (4, .int (x4 + Int32.ofInt 1))], []))
set_option maxRecDepth 100000 in
theorem lm_e166_17 {sc : lm_H} {d : Nat} {x0 : Nat} {x2 : Nat} {x3 : Nat} {x4 : Int32} {σ : lm_S} {r : Except Nat lm_R × lm_S} (h : lm_q166_17 sc (lm_cal sc d) (lm_rn sc d lm_m166.2.2.2.2.1 (lm_reg lm_m166.2.2.2.2.2)) x0 x2 x3 x4  σ = some r) : lm_rn sc d lm_m166.2.2.2.2.1 (lm_reg lm_m166.2.2.2.2.2) (17, [(0, .ref x0), (2, .ref x2), (3, .ref x3), (4, .int x4)], []) σ = some r := lm_rn_of h
/-- LatticeSuite$Dsa.keys, from 105 on -/
noncomputable def lm_q166_105 (sc : lm_H) (A : Nat → List Value → lm_M lm_R) (B : lm_F → lm_M lm_R) (x0 : Nat) (x2 : Nat) (x3 : Nat) (x4 : Int32) (x5 : Int32) : lm_M lm_R :=
  lm_bind (lm_gI 3676 x0) fun v1 =>
  lm_bind (lm_gI 3672 x0) fun v2 =>
  lm_if .ge x5 (v1 + v2) (B (169, [(0, .ref x0), (2, .ref x2), (3, .ref x3), (4, .int x4), (5, .int (Int32.ofInt 0))], [])) (lm_bind (lm_gI 3668 x0) fun v3 =>
  lm_bind (lm_iald sc (lm_B + 9) v3) fun v4 =>
  lm_bind (lm_gR 3614 x0) fun v5 =>
  lm_bind (lm_aaR sc v5 x5) fun v6 =>
  lm_bind (lm_sel [(9, 234)] (some (.ref x0))) fun y7 =>
  lm_bind (lm_asI (A y7 [.ref x0])) fun v8 =>
  lm_bind (lm_gR 402 x3) fun v9 =>
  lm_bind (lm_sel [(9, 235)] (some (.ref x0))) fun y10 =>
  lm_bind (lm_asV (A y10 [.ref x0, .int v4, .ref v6, .int v8, .ref v9, .int x4])) fun _ =>
  lm_bind (lm_sel [(9, 234)] (some (.ref x0))) fun y11 =>
  lm_bind (lm_asI (A y11 [.ref x0])) fun v12 =>
  B (105, [(0, .ref x0), (2, .ref x2), (3, .ref x3), (4, .int (x4 + ((Int32.ofInt 32) * v12))), (5, .int (x5 + Int32.ofInt 1))], []))
set_option maxRecDepth 100000 in
theorem lm_e166_105 {sc : lm_H} {d : Nat} {x0 : Nat} {x2 : Nat} {x3 : Nat} {x4 : Int32} {x5 : Int32} {σ : lm_S} {r : Except Nat lm_R × lm_S} (h : lm_q166_105 sc (lm_cal sc d) (lm_rn sc d lm_m166.2.2.2.2.1 (lm_reg lm_m166.2.2.2.2.2)) x0 x2 x3 x4 x5  σ = some r) : lm_rn sc d lm_m166.2.2.2.2.1 (lm_reg lm_m166.2.2.2.2.2) (105, [(0, .ref x0), (2, .ref x2), (3, .ref x3), (4, .int x4), (5, .int x5)], []) σ = some r := lm_rn_of h
/-- LatticeSuite$Dsa.keys, from 169 on -/
noncomputable def lm_q166_169 (sc : lm_H) (A : Nat → List Value → lm_M lm_R) (B : lm_F → lm_M lm_R) (x0 : Nat) (x2 : Nat) (x3 : Nat) (x4 : Int32) (x5 : Int32) : lm_M lm_R :=
  lm_bind (lm_gI 3676 x0) fun v1 =>
  lm_if .ge x5 v1 (B (198, [(0, .ref x0), (2, .ref x2), (3, .ref x3), (4, .int x4), (5, .int (Int32.ofInt 0))], [])) (lm_bind (lm_gR 3614 x0) fun v2 =>
  lm_bind (lm_aaR sc v2 x5) fun v3 =>
  lm_bind (lm_sel [(9, 236)] (some (.ref x0))) fun y4 =>
  lm_bind (lm_asV (A y4 [.ref x0, .ref v3])) fun _ =>
  B (169, [(0, .ref x0), (2, .ref x2), (3, .ref x3), (4, .int x4), (5, .int (x5 + Int32.ofInt 1))], []))
set_option maxRecDepth 100000 in
theorem lm_e166_169 {sc : lm_H} {d : Nat} {x0 : Nat} {x2 : Nat} {x3 : Nat} {x4 : Int32} {x5 : Int32} {σ : lm_S} {r : Except Nat lm_R × lm_S} (h : lm_q166_169 sc (lm_cal sc d) (lm_rn sc d lm_m166.2.2.2.2.1 (lm_reg lm_m166.2.2.2.2.2)) x0 x2 x3 x4 x5  σ = some r) : lm_rn sc d lm_m166.2.2.2.2.1 (lm_reg lm_m166.2.2.2.2.2) (169, [(0, .ref x0), (2, .ref x2), (3, .ref x3), (4, .int x4), (5, .int x5)], []) σ = some r := lm_rn_of h
/-- LatticeSuite$Dsa.keys, from 198 on -/
noncomputable def lm_q166_198 (sc : lm_H) (A : Nat → List Value → lm_M lm_R) (B : lm_F → lm_M lm_R) (x0 : Nat) (x2 : Nat) (x3 : Nat) (x4 : Int32) (x5 : Int32) : lm_M lm_R :=
  lm_bind (lm_gI 3672 x0) fun v1 =>
  lm_if .ge x5 v1 (lm_bind (lm_sel [(9, 173)] (some (.ref x0))) fun y2 =>
  lm_bind (lm_asI (A y2 [.ref x0])) fun v3 =>
  lm_bind (lm_putf 404 x2 (.int v3)) fun _ =>
  lm_bind (lm_gR 402 x2) fun v4 =>
  lm_bind (lm_gI 404 x2) fun v5 =>
  lm_bind (lm_gR 402 x3) fun v6 =>
  lm_bind (lm_sel [(9, 240)] (some (.ref x0))) fun y7 =>
  lm_bind (lm_asV (A y7 [.ref x0, .ref v4, .int (Int32.ofInt 0), .int v5, .ref v6, .int (Int32.ofInt 64)])) fun _ =>
  lm_bind (lm_sel [(9, 169)] (some (.ref x0))) fun y8 =>
  lm_bind (lm_asI (A y8 [.ref x0])) fun v9 =>
  lm_bind (lm_putf 404 x3 (.int v9)) fun _ =>
  lm_ret none) (lm_bind (lm_gR 3614 x0) fun v10 =>
  lm_bind (lm_gR 3618 x0) fun v11 =>
  lm_bind (lm_aaR sc v11 x5) fun v12 =>
  lm_bind (lm_sel [(9, 237)] (some (.ref x0))) fun y13 =>
  lm_bind (lm_asV (A y13 [.ref x0, .int x5, .ref v10, .ref v12])) fun _ =>
  lm_bind (lm_gR 3618 x0) fun v14 =>
  lm_bind (lm_aaR sc v14 x5) fun v15 =>
  lm_bind (lm_sel [(9, 238)] (some (.ref x0))) fun y16 =>
  lm_bind (lm_asV (A y16 [.ref x0, .ref v15])) fun _ =>
  lm_bind (lm_gR 402 x2) fun v17 =>
  lm_bind (lm_sel [(9, 239)] (some (.ref x0))) fun y18 =>
  lm_bind (lm_asV (A y18 [.ref x0, .int x5, .ref v17])) fun _ =>
  lm_bind (lm_gR 3638 x0) fun v19 =>
  lm_bind (lm_gR 402 x3) fun v20 =>
  lm_bind (lm_sel [(9, 235)] (some (.ref x0))) fun y21 =>
  lm_bind (lm_asV (A y21 [.ref x0, .int (Int32.ofInt 4096), .ref v19, .int (Int32.ofInt 13), .ref v20, .int x4])) fun _ =>
  B (198, [(0, .ref x0), (2, .ref x2), (3, .ref x3), (4, .int (x4 + Int32.ofInt 416)), (5, .int (x5 + Int32.ofInt 1))], []))
set_option maxRecDepth 100000 in
theorem lm_e166_198 {sc : lm_H} {d : Nat} {x0 : Nat} {x2 : Nat} {x3 : Nat} {x4 : Int32} {x5 : Int32} {σ : lm_S} {r : Except Nat lm_R × lm_S} (h : lm_q166_198 sc (lm_cal sc d) (lm_rn sc d lm_m166.2.2.2.2.1 (lm_reg lm_m166.2.2.2.2.2)) x0 x2 x3 x4 x5  σ = some r) : lm_rn sc d lm_m166.2.2.2.2.1 (lm_reg lm_m166.2.2.2.2.2) (198, [(0, .ref x0), (2, .ref x2), (3, .ref x3), (4, .int x4), (5, .int x5)], []) σ = some r := lm_rn_of h
/-- LatticeSuiteModel.small, from 0 on -/
noncomputable def lm_q167_0 (sc : lm_H) (A : Nat → List Value → lm_M lm_R) (B : lm_F → lm_M lm_R) (x0 : Nat) (x1 : Int32) : lm_M lm_R :=
  lm_bind (lm_gI 4572 x0) fun v1 =>
  lm_if .ne v1 (Int32.ofInt 2) (lm_if .ge x1 (Int32.ofInt 9) (lm_ret (some (.int (Int32.ofInt 9)))) (lm_ret (some (.int ((Int32.ofInt 4) - x1))))) (lm_if .ge x1 (Int32.ofInt 15) (lm_ret (some (.int (Int32.ofInt 9)))) (lm_when (¬ (Int32.ofInt 5) = 0) inferInstance (lm_ret (some (.int ((Int32.ofInt 2) - (lm_rem x1 (Int32.ofInt 5))))))))
set_option maxRecDepth 100000 in
theorem lm_e167_0 {sc : lm_H} {d : Nat} {x0 : Nat} {x1 : Int32} {σ : lm_S} {r : Except Nat lm_R × lm_S} (h : lm_q167_0 sc (lm_cal sc d) (lm_rn sc d lm_m167.2.2.2.2.1 (lm_reg lm_m167.2.2.2.2.2)) x0 x1  σ = some r) : lm_rn sc d lm_m167.2.2.2.2.1 (lm_reg lm_m167.2.2.2.2.2) (0, [(0, .ref x0), (1, .int x1)], []) σ = some r := lm_rn_of h
/-- LatticeSuite$Signed.canBeMade, from 0 on -/
noncomputable def lm_q168_0 (sc : lm_H) (A : Nat → List Value → lm_M lm_R) (B : lm_F → lm_M lm_R) (x0 : Nat) (x1 : Int32) : lm_M lm_R :=
  lm_if .lt x1 0 (B (17, [], [])) (lm_bind (lm_gR 1606 x0) fun v1 =>
  lm_bind (lm_gI 404 v1) fun v2 =>
  lm_if .gt v2 (Int32.ofInt 255) (lm_when ((Int32.ofInt 0) = 0 ∨ (Int32.ofInt 0) = 1) inferInstance (lm_ret (some (.int (Int32.ofInt 0))))) (B (17, [], [])))
set_option maxRecDepth 100000 in
theorem lm_e168_0 {sc : lm_H} {d : Nat} {x0 : Nat} {x1 : Int32} {σ : lm_S} {r : Except Nat lm_R × lm_S} (h : lm_q168_0 sc (lm_cal sc d) (lm_rn sc d lm_m168.2.2.2.2.1 (lm_reg lm_m168.2.2.2.2.2)) x0 x1  σ = some r) : lm_rn sc d lm_m168.2.2.2.2.1 (lm_reg lm_m168.2.2.2.2.2) (0, [(0, .ref x0), (1, .int x1)], []) σ = some r := lm_rn_of h
/-- LatticeSuite$Signed.canBeMade, from 17 on -/
noncomputable def lm_q168_17 (sc : lm_H) (A : Nat → List Value → lm_M lm_R) (B : lm_F → lm_M lm_R)  : lm_M lm_R :=
  lm_when ((Int32.ofInt 1) = 0 ∨ (Int32.ofInt 1) = 1) inferInstance (lm_ret (some (.int (Int32.ofInt 1))))
set_option maxRecDepth 100000 in
theorem lm_e168_17 {sc : lm_H} {d : Nat}  {σ : lm_S} {r : Except Nat lm_R × lm_S} (h : lm_q168_17 sc (lm_cal sc d) (lm_rn sc d lm_m168.2.2.2.2.1 (lm_reg lm_m168.2.2.2.2.2))   σ = some r) : lm_rn sc d lm_m168.2.2.2.2.1 (lm_reg lm_m168.2.2.2.2.2) (17, [], []) σ = some r := lm_rn_of h
/-- LatticeSuite$Dsa.secretSize, from 0 on -/
noncomputable def lm_q169_0 (sc : lm_H) (A : Nat → List Value → lm_M lm_R) (B : lm_F → lm_M lm_R) (x0 : Nat) : lm_M lm_R :=
  lm_bind (lm_gI 3672 x0) fun v1 =>
  lm_bind (lm_gI 3676 x0) fun v2 =>
  lm_bind (lm_sel [(9, 234)] (some (.ref x0))) fun y3 =>
  lm_bind (lm_asI (A y3 [.ref x0])) fun v4 =>
  lm_bind (lm_gI 3672 x0) fun v5 =>
  lm_ret (some (.int ((Int32.ofInt 128) + ((Int32.ofInt 32) * (((v1 + v2) * v4) + ((Int32.ofInt 13) * v5))))))
set_option maxRecDepth 100000 in
theorem lm_e169_0 {sc : lm_H} {d : Nat} {x0 : Nat} {σ : lm_S} {r : Except Nat lm_R × lm_S} (h : lm_q169_0 sc (lm_cal sc d) (lm_rn sc d lm_m169.2.2.2.2.1 (lm_reg lm_m169.2.2.2.2.2)) x0  σ = some r) : lm_rn sc d lm_m169.2.2.2.2.1 (lm_reg lm_m169.2.2.2.2.2) (0, [(0, .ref x0)], []) σ = some r := lm_rn_of h
/-- LatticeSuite$Signed.make, from 0 on -/
noncomputable def lm_q170_0 (sc : lm_H) (A : Nat → List Value → lm_M lm_R) (B : lm_F → lm_M lm_R) (x0 : Nat) (x1 : Int32) : lm_M lm_R :=
  lm_if .gt x1 0 (B (10, [(0, .ref x0), (1, .int x1)], [.int (Int32.ofInt 0), .ref x0])) (B (10, [(0, .ref x0), (1, .int x1)], [.int (Int32.ofInt 1), .ref x0]))
set_option maxRecDepth 100000 in
theorem lm_e170_0 {sc : lm_H} {d : Nat} {x0 : Nat} {x1 : Int32} {σ : lm_S} {r : Except Nat lm_R × lm_S} (h : lm_q170_0 sc (lm_cal sc d) (lm_rn sc d lm_m170.2.2.2.2.1 (lm_reg lm_m170.2.2.2.2.2)) x0 x1  σ = some r) : lm_rn sc d lm_m170.2.2.2.2.1 (lm_reg lm_m170.2.2.2.2.2) (0, [(0, .ref x0), (1, .int x1)], []) σ = some r := lm_rn_of h
/-- LatticeSuite$Signed.make, from 10 on -/
noncomputable def lm_q170_10 (sc : lm_H) (A : Nat → List Value → lm_M lm_R) (B : lm_F → lm_M lm_R) (x0 : Nat) (x1 : Int32) (s0 : Int32) (s1 : Nat) : lm_M lm_R :=
  lm_bind (lm_putf 1623 s1 (.int s0)) fun _ =>
  lm_bind (lm_putf 1616 x0 (.int (Int32.ofInt 0))) fun _ =>
  lm_if .lt x1 0 (B (96, [(0, .ref x0), (1, .int x1)], [])) (lm_bind (lm_sel [(4, 168)] (some (.ref x0))) fun y1 =>
  lm_bind (lm_asI (A y1 [.ref x0, .int x1])) fun v2 =>
  lm_if .eq v2 0 (B (96, [(0, .ref x0), (1, .int x1)], [])) (lm_bind (lm_gR 1614 x0) fun v3 =>
  lm_if .ne x1 0 (B (44, [(0, .ref x0), (1, .int x1)], [.int (Int32.ofInt 1), .int (Int32.ofInt 0), .ref v3])) (B (44, [(0, .ref x0), (1, .int x1)], [.int (Int32.ofInt 0), .int (Int32.ofInt 0), .ref v3]))))
set_option maxRecDepth 100000 in
theorem lm_e170_10 {sc : lm_H} {d : Nat} {x0 : Nat} {x1 : Int32} {s0 : Int32} {s1 : Nat} {σ : lm_S} {r : Except Nat lm_R × lm_S} (h : lm_q170_10 sc (lm_cal sc d) (lm_rn sc d lm_m170.2.2.2.2.1 (lm_reg lm_m170.2.2.2.2.2)) x0 x1 s0 s1 σ = some r) : lm_rn sc d lm_m170.2.2.2.2.1 (lm_reg lm_m170.2.2.2.2.2) (10, [(0, .ref x0), (1, .int x1)], [.int s0, .ref s1]) σ = some r := lm_rn_of h
/-- LatticeSuite$Signed.make, from 96 on -/
noncomputable def lm_q170_96 (sc : lm_H) (A : Nat → List Value → lm_M lm_R) (B : lm_F → lm_M lm_R) (x0 : Nat) (x1 : Int32) : lm_M lm_R :=
  lm_if .le x1 0 (lm_ret none) (lm_bind (lm_sel [(4, 241)] (some (.ref x0))) fun y1 =>
  lm_bind (lm_asV (A y1 [.ref x0, .int x1])) fun _ =>
  lm_ret none)
set_option maxRecDepth 100000 in
theorem lm_e170_96 {sc : lm_H} {d : Nat} {x0 : Nat} {x1 : Int32} {σ : lm_S} {r : Except Nat lm_R × lm_S} (h : lm_q170_96 sc (lm_cal sc d) (lm_rn sc d lm_m170.2.2.2.2.1 (lm_reg lm_m170.2.2.2.2.2)) x0 x1  σ = some r) : lm_rn sc d lm_m170.2.2.2.2.1 (lm_reg lm_m170.2.2.2.2.2) (96, [(0, .ref x0), (1, .int x1)], []) σ = some r := lm_rn_of h
/-- LatticeSuite$Signed.make, from 44 on -/
noncomputable def lm_q170_44 (sc : lm_H) (A : Nat → List Value → lm_M lm_R) (B : lm_F → lm_M lm_R) (x0 : Nat) (x1 : Int32) (s0 : Int32) (s1 : Int32) (s2 : Nat) : lm_M lm_R :=
  lm_bind (lm_bast s2 s1 (lm_b8 s0)) fun _ =>
  lm_bind (lm_gR 1614 x0) fun v1 =>
  lm_bind (lm_gR 1606 x0) fun v2 =>
  lm_bind (lm_gI 404 v2) fun v3 =>
  lm_bind (lm_bast v1 (Int32.ofInt 1) (lm_b8 v3)) fun _ =>
  lm_bind (lm_gR 1606 x0) fun v4 =>
  lm_bind (lm_gR 402 v4) fun v5 =>
  lm_bind (lm_gR 1614 x0) fun v6 =>
  lm_bind (lm_gR 1606 x0) fun v7 =>
  lm_bind (lm_gI 404 v7) fun v8 =>
  lm_bind (lm_copy sc v5 (Int32.ofInt 0) v6 (Int32.ofInt 2) v8) fun _ =>
  lm_bind (lm_gR 1606 x0) fun v9 =>
  lm_bind (lm_gI 404 v9) fun v10 =>
  lm_bind (lm_putf 1616 x0 (.int ((Int32.ofInt 2) + v10))) fun _ =>
  B (96, [(0, .ref x0), (1, .int x1)], [])
set_option maxRecDepth 100000 in
theorem lm_e170_44 {sc : lm_H} {d : Nat} {x0 : Nat} {x1 : Int32} {s0 : Int32} {s1 : Int32} {s2 : Nat} {σ : lm_S} {r : Except Nat lm_R × lm_S} (h : lm_q170_44 sc (lm_cal sc d) (lm_rn sc d lm_m170.2.2.2.2.1 (lm_reg lm_m170.2.2.2.2.2)) x0 x1 s0 s1 s2 σ = some r) : lm_rn sc d lm_m170.2.2.2.2.1 (lm_reg lm_m170.2.2.2.2.2) (44, [(0, .ref x0), (1, .int x1)], [.int s0, .int s1, .ref s2]) σ = some r := lm_rn_of h
/-- LatticeSuite$Dsa.sign, from 0 on -/
noncomputable def lm_q171_0 (sc : lm_H) (A : Nat → List Value → lm_M lm_R) (B : lm_F → lm_M lm_R) (x0 : Nat) (x1 : Nat) (x2 : Nat) (x3 : Nat) (x4 : Nat) : lm_M lm_R :=
  lm_bind (lm_sel [(9, 242)] (some (.ref x0))) fun y1 =>
  lm_bind (lm_asV (A y1 [.ref x0, .ref x1, .int (Int32.ofInt 64), .ref x3])) fun _ =>
  lm_bind (lm_sel [(9, 243)] (some (.ref x0))) fun y2 =>
  lm_bind (lm_asV (A y2 [.ref x0, .ref x1, .ref x2])) fun _ =>
  lm_bind (lm_sel [(9, 232)] (some (.ref x0))) fun y3 =>
  lm_bind (lm_asV (A y3 [.ref x0, .ref x1, .int (Int32.ofInt 0)])) fun _ =>
  lm_bind (lm_sel [(9, 244)] (some (.ref x0))) fun y4 =>
  lm_bind (lm_asV (A y4 [.ref x0, .ref x1])) fun _ =>
  B (28, [(0, .ref x0), (4, .ref x4), (5, .int (Int32.ofInt 1))], [])
set_option maxRecDepth 100000 in
theorem lm_e171_0 {sc : lm_H} {d : Nat} {x0 : Nat} {x1 : Nat} {x2 : Nat} {x3 : Nat} {x4 : Nat} {σ : lm_S} {r : Except Nat lm_R × lm_S} (h : lm_q171_0 sc (lm_cal sc d) (lm_rn sc d lm_m171.2.2.2.2.1 (lm_reg lm_m171.2.2.2.2.2)) x0 x1 x2 x3 x4  σ = some r) : lm_rn sc d lm_m171.2.2.2.2.1 (lm_reg lm_m171.2.2.2.2.2) (0, [(0, .ref x0), (1, .ref x1), (2, .ref x2), (3, .ref x3), (4, .ref x4)], []) σ = some r := lm_rn_of h
/-- LatticeSuite$Dsa.sign, from 28 on -/
noncomputable def lm_q171_28 (sc : lm_H) (A : Nat → List Value → lm_M lm_R) (B : lm_F → lm_M lm_R) (x0 : Nat) (x4 : Nat) (x5 : Int32) : lm_M lm_R :=
  lm_if .gt x5 (Int32.ofInt 814) (lm_thr 15) (lm_bind (lm_gI 3676 x0) fun v1 =>
  lm_bind (lm_sel [(9, 245)] (some (.ref x0))) fun y2 =>
  lm_bind (lm_asI (A y2 [.ref x0, .int ((x5 - (Int32.ofInt 1)) * v1)])) fun v3 =>
  lm_if .eq v3 0 (B (28, [(0, .ref x0), (4, .ref x4), (5, .int (x5 + Int32.ofInt 1))], [])) (lm_bind (lm_sel [(9, 246)] (some (.ref x0))) fun y4 =>
  lm_bind (lm_asV (A y4 [.ref x0, .ref x4])) fun _ =>
  lm_ret (some (.int x5))))
set_option maxRecDepth 100000 in
theorem lm_e171_28 {sc : lm_H} {d : Nat} {x0 : Nat} {x4 : Nat} {x5 : Int32} {σ : lm_S} {r : Except Nat lm_R × lm_S} (h : lm_q171_28 sc (lm_cal sc d) (lm_rn sc d lm_m171.2.2.2.2.1 (lm_reg lm_m171.2.2.2.2.2)) x0 x4 x5  σ = some r) : lm_rn sc d lm_m171.2.2.2.2.1 (lm_reg lm_m171.2.2.2.2.2) (28, [(0, .ref x0), (4, .ref x4), (5, .int x5)], []) σ = some r := lm_rn_of h
/-- LatticeSuiteModel.few, from 0 on -/
noncomputable def lm_q172_0 (sc : lm_H) (A : Nat → List Value → lm_M lm_R) (B : lm_F → lm_M lm_R) (x0 : Nat) (x1 : Nat) (x2 : Nat) (x3 : Nat) : lm_M lm_R :=
  B (3, [(0, .ref x0), (1, .ref x1), (2, .ref x2), (3, .ref x3), (4, .int (Int32.ofInt 0))], [])
set_option maxRecDepth 100000 in
theorem lm_e172_0 {sc : lm_H} {d : Nat} {x0 : Nat} {x1 : Nat} {x2 : Nat} {x3 : Nat} {σ : lm_S} {r : Except Nat lm_R × lm_S} (h : lm_q172_0 sc (lm_cal sc d) (lm_rn sc d lm_m172.2.2.2.2.1 (lm_reg lm_m172.2.2.2.2.2)) x0 x1 x2 x3  σ = some r) : lm_rn sc d lm_m172.2.2.2.2.1 (lm_reg lm_m172.2.2.2.2.2) (0, [(0, .ref x0), (1, .ref x1), (2, .ref x2), (3, .ref x3)], []) σ = some r := lm_rn_of h
/-- LatticeSuiteModel.few, from 3 on -/
noncomputable def lm_q172_3 (sc : lm_H) (A : Nat → List Value → lm_M lm_R) (B : lm_F → lm_M lm_R) (x0 : Nat) (x1 : Nat) (x2 : Nat) (x3 : Nat) (x4 : Int32) : lm_M lm_R :=
  lm_if .ge x4 (Int32.ofInt 256) (B (28, [(0, .ref x0), (1, .ref x1), (2, .ref x2), (3, .ref x3), (4, .int (Int32.ofInt 0))], [])) (lm_bind (lm_gR 4502 x0) fun v1 =>
  lm_bind (lm_last v1 x4 (Int64.ofNat 0)) fun _ =>
  B (3, [(0, .ref x0), (1, .ref x1), (2, .ref x2), (3, .ref x3), (4, .int (x4 + Int32.ofInt 1))], []))
set_option maxRecDepth 100000 in
theorem lm_e172_3 {sc : lm_H} {d : Nat} {x0 : Nat} {x1 : Nat} {x2 : Nat} {x3 : Nat} {x4 : Int32} {σ : lm_S} {r : Except Nat lm_R × lm_S} (h : lm_q172_3 sc (lm_cal sc d) (lm_rn sc d lm_m172.2.2.2.2.1 (lm_reg lm_m172.2.2.2.2.2)) x0 x1 x2 x3 x4  σ = some r) : lm_rn sc d lm_m172.2.2.2.2.1 (lm_reg lm_m172.2.2.2.2.2) (3, [(0, .ref x0), (1, .ref x1), (2, .ref x2), (3, .ref x3), (4, .int x4)], []) σ = some r := lm_rn_of h
/-- LatticeSuiteModel.few, from 28 on -/
noncomputable def lm_q172_28 (sc : lm_H) (A : Nat → List Value → lm_M lm_R) (B : lm_F → lm_M lm_R) (x0 : Nat) (x1 : Nat) (x2 : Nat) (x3 : Nat) (x4 : Int32) : lm_M lm_R :=
  lm_if .ge x4 (Int32.ofInt 256) (B (130, [(0, .ref x0), (1, .ref x1), (4, .int (Int32.ofInt 0))], [])) (B (39, [(0, .ref x0), (1, .ref x1), (2, .ref x2), (3, .ref x3), (4, .int x4), (5, .int (Int32.ofInt 0))], []))
set_option maxRecDepth 100000 in
theorem lm_e172_28 {sc : lm_H} {d : Nat} {x0 : Nat} {x1 : Nat} {x2 : Nat} {x3 : Nat} {x4 : Int32} {σ : lm_S} {r : Except Nat lm_R × lm_S} (h : lm_q172_28 sc (lm_cal sc d) (lm_rn sc d lm_m172.2.2.2.2.1 (lm_reg lm_m172.2.2.2.2.2)) x0 x1 x2 x3 x4  σ = some r) : lm_rn sc d lm_m172.2.2.2.2.1 (lm_reg lm_m172.2.2.2.2.2) (28, [(0, .ref x0), (1, .ref x1), (2, .ref x2), (3, .ref x3), (4, .int x4)], []) σ = some r := lm_rn_of h
/-- LatticeSuiteModel.few, from 130 on -/
noncomputable def lm_q172_130 (sc : lm_H) (A : Nat → List Value → lm_M lm_R) (B : lm_F → lm_M lm_R) (x0 : Nat) (x1 : Nat) (x4 : Int32) : lm_M lm_R :=
  lm_if .ge x4 (Int32.ofInt 256) (lm_ret none) (lm_bind (lm_gR 4502 x0) fun v1 =>
  lm_bind (lm_lald sc v1 x4) fun v2 =>
  lm_when (¬ (Int64.ofNat 8380417) = 0) inferInstance (lm_when (¬ (Int64.ofNat 8380417) = 0) inferInstance (lm_bind (lm_asI (A 247 [.int (Int64.toInt32 (lm_remL ((lm_remL v2 (Int64.ofNat 8380417)) + (Int64.ofNat 8380417)) (Int64.ofNat 8380417)))])) fun v3 =>
  lm_bind (lm_iast x1 x4 v3) fun _ =>
  B (130, [(0, .ref x0), (1, .ref x1), (4, .int (x4 + Int32.ofInt 1))], []))))
set_option maxRecDepth 100000 in
theorem lm_e172_130 {sc : lm_H} {d : Nat} {x0 : Nat} {x1 : Nat} {x4 : Int32} {σ : lm_S} {r : Except Nat lm_R × lm_S} (h : lm_q172_130 sc (lm_cal sc d) (lm_rn sc d lm_m172.2.2.2.2.1 (lm_reg lm_m172.2.2.2.2.2)) x0 x1 x4  σ = some r) : lm_rn sc d lm_m172.2.2.2.2.1 (lm_reg lm_m172.2.2.2.2.2) (130, [(0, .ref x0), (1, .ref x1), (4, .int x4)], []) σ = some r := lm_rn_of h
/-- LatticeSuiteModel.few, from 39 on -/
noncomputable def lm_q172_39 (sc : lm_H) (A : Nat → List Value → lm_M lm_R) (B : lm_F → lm_M lm_R) (x0 : Nat) (x1 : Nat) (x2 : Nat) (x3 : Nat) (x4 : Int32) (x5 : Int32) : lm_M lm_R :=
  lm_if .ge x5 (Int32.ofInt 256) (B (121, [(0, .ref x0), (1, .ref x1), (2, .ref x2), (3, .ref x3), (4, .int x4)], [])) (lm_bind (lm_iald sc x2 x4) fun v1 =>
  lm_if .eq v1 0 (B (121, [(0, .ref x0), (1, .ref x1), (2, .ref x2), (3, .ref x3), (4, .int x4)], [])) (lm_bind (lm_iald sc x2 x4) fun v2 =>
  lm_bind (lm_iald sc x3 x5) fun v3 =>
  lm_if .ge (x4 + x5) (Int32.ofInt 256) (lm_bind (lm_gR 4502 x0) fun v4 =>
  lm_bind (lm_lald sc v4 ((x4 + x5) - (Int32.ofInt 256))) fun v5 =>
  lm_bind (lm_last v4 ((x4 + x5) - (Int32.ofInt 256)) (v5 - ((Int32.toInt64 v2) * (Int32.toInt64 v3)))) fun _ =>
  B (115, [(0, .ref x0), (1, .ref x1), (2, .ref x2), (3, .ref x3), (4, .int x4), (5, .int x5)], [])) (lm_bind (lm_gR 4502 x0) fun v6 =>
  lm_bind (lm_lald sc v6 (x4 + x5)) fun v7 =>
  lm_bind (lm_last v6 (x4 + x5) (v7 + ((Int32.toInt64 v2) * (Int32.toInt64 v3)))) fun _ =>
  B (115, [(0, .ref x0), (1, .ref x1), (2, .ref x2), (3, .ref x3), (4, .int x4), (5, .int x5)], []))))
set_option maxRecDepth 100000 in
theorem lm_e172_39 {sc : lm_H} {d : Nat} {x0 : Nat} {x1 : Nat} {x2 : Nat} {x3 : Nat} {x4 : Int32} {x5 : Int32} {σ : lm_S} {r : Except Nat lm_R × lm_S} (h : lm_q172_39 sc (lm_cal sc d) (lm_rn sc d lm_m172.2.2.2.2.1 (lm_reg lm_m172.2.2.2.2.2)) x0 x1 x2 x3 x4 x5  σ = some r) : lm_rn sc d lm_m172.2.2.2.2.1 (lm_reg lm_m172.2.2.2.2.2) (39, [(0, .ref x0), (1, .ref x1), (2, .ref x2), (3, .ref x3), (4, .int x4), (5, .int x5)], []) σ = some r := lm_rn_of h
/-- LatticeSuiteModel.few, from 121 on -/
noncomputable def lm_q172_121 (sc : lm_H) (A : Nat → List Value → lm_M lm_R) (B : lm_F → lm_M lm_R) (x0 : Nat) (x1 : Nat) (x2 : Nat) (x3 : Nat) (x4 : Int32) : lm_M lm_R :=
  B (28, [(0, .ref x0), (1, .ref x1), (2, .ref x2), (3, .ref x3), (4, .int (x4 + Int32.ofInt 1))], [])
set_option maxRecDepth 100000 in
theorem lm_e172_121 {sc : lm_H} {d : Nat} {x0 : Nat} {x1 : Nat} {x2 : Nat} {x3 : Nat} {x4 : Int32} {σ : lm_S} {r : Except Nat lm_R × lm_S} (h : lm_q172_121 sc (lm_cal sc d) (lm_rn sc d lm_m172.2.2.2.2.1 (lm_reg lm_m172.2.2.2.2.2)) x0 x1 x2 x3 x4  σ = some r) : lm_rn sc d lm_m172.2.2.2.2.1 (lm_reg lm_m172.2.2.2.2.2) (121, [(0, .ref x0), (1, .ref x1), (2, .ref x2), (3, .ref x3), (4, .int x4)], []) σ = some r := lm_rn_of h
/-- LatticeSuiteModel.few, from 115 on -/
noncomputable def lm_q172_115 (sc : lm_H) (A : Nat → List Value → lm_M lm_R) (B : lm_F → lm_M lm_R) (x0 : Nat) (x1 : Nat) (x2 : Nat) (x3 : Nat) (x4 : Int32) (x5 : Int32) : lm_M lm_R :=
  B (39, [(0, .ref x0), (1, .ref x1), (2, .ref x2), (3, .ref x3), (4, .int x4), (5, .int (x5 + Int32.ofInt 1))], [])
set_option maxRecDepth 100000 in
theorem lm_e172_115 {sc : lm_H} {d : Nat} {x0 : Nat} {x1 : Nat} {x2 : Nat} {x3 : Nat} {x4 : Int32} {x5 : Int32} {σ : lm_S} {r : Except Nat lm_R × lm_S} (h : lm_q172_115 sc (lm_cal sc d) (lm_rn sc d lm_m172.2.2.2.2.1 (lm_reg lm_m172.2.2.2.2.2)) x0 x1 x2 x3 x4 x5  σ = some r) : lm_rn sc d lm_m172.2.2.2.2.1 (lm_reg lm_m172.2.2.2.2.2) (115, [(0, .ref x0), (1, .ref x1), (2, .ref x2), (3, .ref x3), (4, .int x4), (5, .int x5)], []) σ = some r := lm_rn_of h
/-- LatticeSuite$Dsa.publicSize, from 0 on -/
noncomputable def lm_q173_0 (sc : lm_H) (A : Nat → List Value → lm_M lm_R) (B : lm_F → lm_M lm_R) (x0 : Nat) : lm_M lm_R :=
  lm_bind (lm_gI 3672 x0) fun v1 =>
  lm_ret (some (.int ((Int32.ofInt 32) + ((Int32.ofInt 320) * v1))))
set_option maxRecDepth 100000 in
theorem lm_e173_0 {sc : lm_H} {d : Nat} {x0 : Nat} {σ : lm_S} {r : Except Nat lm_R × lm_S} (h : lm_q173_0 sc (lm_cal sc d) (lm_rn sc d lm_m173.2.2.2.2.1 (lm_reg lm_m173.2.2.2.2.2)) x0  σ = some r) : lm_rn sc d lm_m173.2.2.2.2.1 (lm_reg lm_m173.2.2.2.2.2) (0, [(0, .ref x0)], []) σ = some r := lm_rn_of h
/-- LatticeSuite$Dsa.takesPacket, from 0 on -/
noncomputable def lm_q174_0 (sc : lm_H) (A : Nat → List Value → lm_M lm_R) (B : lm_F → lm_M lm_R) (x0 : Nat) (x1 : Nat) : lm_M lm_R :=
  lm_bind (lm_gI 404 x1) fun v1 =>
  lm_bind (lm_sel [(9, 248)] (some (.ref x0))) fun y2 =>
  lm_bind (lm_asI (A y2 [.ref x0])) fun v3 =>
  lm_if .ne v1 v3 (lm_when ((Int32.ofInt 0) = 0 ∨ (Int32.ofInt 0) = 1) inferInstance (lm_ret (some (.int (Int32.ofInt 0))))) (lm_bind (lm_gR 402 x1) fun v4 =>
  lm_bind (lm_sel [(9, 249)] (some (.ref x0))) fun y5 =>
  lm_bind (lm_asI (A y5 [.ref x0, .ref v4])) fun v6 =>
  lm_if .ne v6 0 (lm_bind (lm_gI 3668 x0) fun v7 =>
  lm_bind (lm_iald sc (lm_B + 11) v7) fun v8 =>
  lm_bind (lm_sel [(9, 250)] (some (.ref x0))) fun y9 =>
  lm_bind (lm_asI (A y9 [.ref x0])) fun v10 =>
  lm_bind (lm_sel [(9, 251)] (some (.ref x0))) fun y11 =>
  lm_bind (lm_asI (A y11 [.ref x0])) fun v12 =>
  B (46, [(0, .ref x0), (1, .ref x1), (2, .int (v8 - v10)), (3, .int v12), (4, .int (Int32.ofInt 0))], [])) (lm_when ((Int32.ofInt 0) = 0 ∨ (Int32.ofInt 0) = 1) inferInstance (lm_ret (some (.int (Int32.ofInt 0))))))
set_option maxRecDepth 100000 in
theorem lm_e174_0 {sc : lm_H} {d : Nat} {x0 : Nat} {x1 : Nat} {σ : lm_S} {r : Except Nat lm_R × lm_S} (h : lm_q174_0 sc (lm_cal sc d) (lm_rn sc d lm_m174.2.2.2.2.1 (lm_reg lm_m174.2.2.2.2.2)) x0 x1  σ = some r) : lm_rn sc d lm_m174.2.2.2.2.1 (lm_reg lm_m174.2.2.2.2.2) (0, [(0, .ref x0), (1, .ref x1)], []) σ = some r := lm_rn_of h
/-- LatticeSuite$Dsa.takesPacket, from 46 on -/
noncomputable def lm_q174_46 (sc : lm_H) (A : Nat → List Value → lm_M lm_R) (B : lm_F → lm_M lm_R) (x0 : Nat) (x1 : Nat) (x2 : Int32) (x3 : Int32) (x4 : Int32) : lm_M lm_R :=
  lm_bind (lm_gI 3676 x0) fun v1 =>
  lm_if .ge x4 v1 (lm_when ((Int32.ofInt 1) = 0 ∨ (Int32.ofInt 1) = 1) inferInstance (lm_ret (some (.int (Int32.ofInt 1))))) (lm_bind (lm_gI 3668 x0) fun v2 =>
  lm_bind (lm_iald sc (lm_B + 11) v2) fun v3 =>
  lm_bind (lm_gR 402 x1) fun v4 =>
  lm_bind (lm_gI 3668 x0) fun v5 =>
  lm_bind (lm_iald sc (lm_B + 13) v5) fun v6 =>
  lm_bind (lm_gR 3622 x0) fun v7 =>
  lm_bind (lm_aaR sc v7 x4) fun v8 =>
  lm_bind (lm_sel [(9, 252)] (some (.ref x0))) fun y9 =>
  lm_bind (lm_asV (A y9 [.ref x0, .int v3, .ref v4, .int (v6 + (((Int32.ofInt 32) * x3) * x4)), .int x3, .ref v8])) fun _ =>
  B (98, [(0, .ref x0), (1, .ref x1), (2, .int x2), (3, .int x3), (4, .int x4), (5, .int (Int32.ofInt 0))], []))
set_option maxRecDepth 100000 in
theorem lm_e174_46 {sc : lm_H} {d : Nat} {x0 : Nat} {x1 : Nat} {x2 : Int32} {x3 : Int32} {x4 : Int32} {σ : lm_S} {r : Except Nat lm_R × lm_S} (h : lm_q174_46 sc (lm_cal sc d) (lm_rn sc d lm_m174.2.2.2.2.1 (lm_reg lm_m174.2.2.2.2.2)) x0 x1 x2 x3 x4  σ = some r) : lm_rn sc d lm_m174.2.2.2.2.1 (lm_reg lm_m174.2.2.2.2.2) (46, [(0, .ref x0), (1, .ref x1), (2, .int x2), (3, .int x3), (4, .int x4)], []) σ = some r := lm_rn_of h
/-- LatticeSuite$Dsa.takesPacket, from 98 on -/
noncomputable def lm_q174_98 (sc : lm_H) (A : Nat → List Value → lm_M lm_R) (B : lm_F → lm_M lm_R) (x0 : Nat) (x1 : Nat) (x2 : Int32) (x3 : Int32) (x4 : Int32) (x5 : Int32) : lm_M lm_R :=
  lm_if .ge x5 (Int32.ofInt 256) (B (46, [(0, .ref x0), (1, .ref x1), (2, .int x2), (3, .int x3), (4, .int (x4 + Int32.ofInt 1))], [])) (lm_bind (lm_gR 3622 x0) fun v1 =>
  lm_bind (lm_aaR sc v1 x4) fun v2 =>
  lm_bind (lm_iald sc v2 x5) fun v3 =>
  lm_bind (lm_asI (A 253 [.int v3])) fun v4 =>
  lm_if .lt v4 x2 (B (98, [(0, .ref x0), (1, .ref x1), (2, .int x2), (3, .int x3), (4, .int x4), (5, .int (x5 + Int32.ofInt 1))], [])) (lm_when ((Int32.ofInt 0) = 0 ∨ (Int32.ofInt 0) = 1) inferInstance (lm_ret (some (.int (Int32.ofInt 0))))))
set_option maxRecDepth 100000 in
theorem lm_e174_98 {sc : lm_H} {d : Nat} {x0 : Nat} {x1 : Nat} {x2 : Int32} {x3 : Int32} {x4 : Int32} {x5 : Int32} {σ : lm_S} {r : Except Nat lm_R × lm_S} (h : lm_q174_98 sc (lm_cal sc d) (lm_rn sc d lm_m174.2.2.2.2.1 (lm_reg lm_m174.2.2.2.2.2)) x0 x1 x2 x3 x4 x5  σ = some r) : lm_rn sc d lm_m174.2.2.2.2.1 (lm_reg lm_m174.2.2.2.2.2) (98, [(0, .ref x0), (1, .ref x1), (2, .int x2), (3, .int x3), (4, .int x4), (5, .int x5)], []) σ = some r := lm_rn_of h
/-- LatticeSuite$Dsa.verify, from 0 on -/
noncomputable def lm_q175_0 (sc : lm_H) (A : Nat → List Value → lm_M lm_R) (B : lm_F → lm_M lm_R) (x0 : Nat) (x1 : Nat) (x2 : Nat) (x3 : Nat) (x4 : Nat) : lm_M lm_R :=
  lm_bind (lm_sel [(9, 232)] (some (.ref x0))) fun y1 =>
  lm_bind (lm_asV (A y1 [.ref x0, .ref x1, .int (Int32.ofInt 0)])) fun _ =>
  lm_bind (lm_sel [(9, 254)] (some (.ref x0))) fun y2 =>
  lm_bind (lm_asV (A y2 [.ref x0, .ref x3])) fun _ =>
  lm_bind (lm_gR 3634 x0) fun v3 =>
  lm_bind (lm_sel [(9, 236)] (some (.ref x0))) fun y4 =>
  lm_bind (lm_asV (A y4 [.ref x0, .ref v3])) fun _ =>
  lm_bind (lm_sel [(9, 173)] (some (.ref x0))) fun y5 =>
  lm_bind (lm_asI (A y5 [.ref x0])) fun v6 =>
  lm_bind (lm_gR 3650 x0) fun v7 =>
  lm_bind (lm_sel [(9, 240)] (some (.ref x0))) fun y8 =>
  lm_bind (lm_asV (A y8 [.ref x0, .ref x1, .int (Int32.ofInt 0), .int v6, .ref v7, .int (Int32.ofInt 0)])) fun _ =>
  lm_bind (lm_gR 3650 x0) fun v9 =>
  lm_bind (lm_sel [(9, 242)] (some (.ref x0))) fun y10 =>
  lm_bind (lm_asV (A y10 [.ref x0, .ref v9, .int (Int32.ofInt 0), .ref x2])) fun _ =>
  B (47, [(0, .ref x0), (1, .ref x1), (3, .ref x3), (4, .ref x4), (5, .int (Int32.ofInt 0))], [])
set_option maxRecDepth 100000 in
theorem lm_e175_0 {sc : lm_H} {d : Nat} {x0 : Nat} {x1 : Nat} {x2 : Nat} {x3 : Nat} {x4 : Nat} {σ : lm_S} {r : Except Nat lm_R × lm_S} (h : lm_q175_0 sc (lm_cal sc d) (lm_rn sc d lm_m175.2.2.2.2.1 (lm_reg lm_m175.2.2.2.2.2)) x0 x1 x2 x3 x4  σ = some r) : lm_rn sc d lm_m175.2.2.2.2.1 (lm_reg lm_m175.2.2.2.2.2) (0, [(0, .ref x0), (1, .ref x1), (2, .ref x2), (3, .ref x3), (4, .ref x4)], []) σ = some r := lm_rn_of h
/-- LatticeSuite$Dsa.verify, from 47 on -/
noncomputable def lm_q175_47 (sc : lm_H) (A : Nat → List Value → lm_M lm_R) (B : lm_F → lm_M lm_R) (x0 : Nat) (x1 : Nat) (x3 : Nat) (x4 : Nat) (x5 : Int32) : lm_M lm_R :=
  lm_bind (lm_gI 3676 x0) fun v1 =>
  lm_if .ge x5 v1 (B (76, [(0, .ref x0), (1, .ref x1), (3, .ref x3), (4, .ref x4), (5, .int (Int32.ofInt 0))], [])) (lm_bind (lm_gR 3622 x0) fun v2 =>
  lm_bind (lm_aaR sc v2 x5) fun v3 =>
  lm_bind (lm_sel [(9, 236)] (some (.ref x0))) fun y4 =>
  lm_bind (lm_asV (A y4 [.ref x0, .ref v3])) fun _ =>
  B (47, [(0, .ref x0), (1, .ref x1), (3, .ref x3), (4, .ref x4), (5, .int (x5 + Int32.ofInt 1))], []))
set_option maxRecDepth 100000 in
theorem lm_e175_47 {sc : lm_H} {d : Nat} {x0 : Nat} {x1 : Nat} {x3 : Nat} {x4 : Nat} {x5 : Int32} {σ : lm_S} {r : Except Nat lm_R × lm_S} (h : lm_q175_47 sc (lm_cal sc d) (lm_rn sc d lm_m175.2.2.2.2.1 (lm_reg lm_m175.2.2.2.2.2)) x0 x1 x3 x4 x5  σ = some r) : lm_rn sc d lm_m175.2.2.2.2.1 (lm_reg lm_m175.2.2.2.2.2) (47, [(0, .ref x0), (1, .ref x1), (3, .ref x3), (4, .ref x4), (5, .int x5)], []) σ = some r := lm_rn_of h
/-- LatticeSuite$Dsa.verify, from 76 on -/
noncomputable def lm_q175_76 (sc : lm_H) (A : Nat → List Value → lm_M lm_R) (B : lm_F → lm_M lm_R) (x0 : Nat) (x1 : Nat) (x3 : Nat) (x4 : Nat) (x5 : Int32) : lm_M lm_R :=
  lm_bind (lm_gI 3672 x0) fun v1 =>
  lm_if .ge x5 v1 (lm_bind (lm_sel [(9, 256)] (some (.ref x0))) fun y2 =>
  lm_bind (lm_asV (A y2 [.ref x0, .ref x3])) fun _ =>
  lm_bind (lm_gR 3602 x0) fun v3 =>
  lm_bind (lm_sel [(2, 139)] (some (.ref v3))) fun y4 =>
  lm_bind (lm_asR (A y4 [.ref v3, .int (Int32.ofInt 12)])) fun v5 =>
  lm_bind (lm_gR 3658 x0) fun v6 =>
  lm_bind (lm_sel [(5, 140), (6, 140), (7, 140)] (some (.ref v5))) fun y7 =>
  lm_bind (lm_asV (A y7 [.ref v5, .ref v6, .int (Int32.ofInt 0), .int (Int32.ofInt 64)])) fun _ =>
  B (129, [(0, .ref x0), (3, .ref x3), (4, .ref x4), (5, .ref v5), (6, .int (Int32.ofInt 0))], [])) (lm_bind (lm_sel [(9, 255)] (some (.ref x0))) fun y8 =>
  lm_bind (lm_asV (A y8 [.ref x0, .int x5, .ref x1])) fun _ =>
  B (76, [(0, .ref x0), (1, .ref x1), (3, .ref x3), (4, .ref x4), (5, .int (x5 + Int32.ofInt 1))], []))
set_option maxRecDepth 100000 in
theorem lm_e175_76 {sc : lm_H} {d : Nat} {x0 : Nat} {x1 : Nat} {x3 : Nat} {x4 : Nat} {x5 : Int32} {σ : lm_S} {r : Except Nat lm_R × lm_S} (h : lm_q175_76 sc (lm_cal sc d) (lm_rn sc d lm_m175.2.2.2.2.1 (lm_reg lm_m175.2.2.2.2.2)) x0 x1 x3 x4 x5  σ = some r) : lm_rn sc d lm_m175.2.2.2.2.1 (lm_reg lm_m175.2.2.2.2.2) (76, [(0, .ref x0), (1, .ref x1), (3, .ref x3), (4, .ref x4), (5, .int x5)], []) σ = some r := lm_rn_of h
/-- LatticeSuite$Dsa.verify, from 129 on -/
noncomputable def lm_q175_129 (sc : lm_H) (A : Nat → List Value → lm_M lm_R) (B : lm_F → lm_M lm_R) (x0 : Nat) (x3 : Nat) (x4 : Nat) (x5 : Nat) (x6 : Int32) : lm_M lm_R :=
  lm_bind (lm_gI 3672 x0) fun v1 =>
  lm_if .ge x6 v1 (lm_bind (lm_gI 3668 x0) fun v2 =>
  lm_bind (lm_iald sc (lm_B + 13) v2) fun v3 =>
  lm_bind (lm_putf 404 x4 (.int v3)) fun _ =>
  lm_bind (lm_gR 402 x4) fun v4 =>
  lm_bind (lm_gI 404 x4) fun v5 =>
  lm_bind (lm_sel [(5, 143), (6, 144), (7, 145)] (some (.ref x5))) fun y6 =>
  lm_bind (lm_asV (A y6 [.ref x5, .ref v4, .int (Int32.ofInt 0), .int v5])) fun _ =>
  lm_bind (lm_gR 402 x4) fun v7 =>
  lm_bind (lm_gI 404 x4) fun v8 =>
  lm_bind (lm_asI (A 136 [.ref v7, .int (Int32.ofInt 0), .ref x3, .int (Int32.ofInt 0), .int v8])) fun v9 =>
  lm_when (v9 = 0 ∨ v9 = 1) inferInstance (lm_ret (some (.int v9)))) (lm_bind (lm_gR 3630 x0) fun v10 =>
  lm_bind (lm_aaR sc v10 x6) fun v11 =>
  lm_bind (lm_sel [(9, 257)] (some (.ref x0))) fun y12 =>
  lm_bind (lm_asI (A y12 [.ref x0])) fun v13 =>
  lm_bind (lm_gR 3646 x0) fun v14 =>
  lm_bind (lm_asV (A 219 [.ref v11, .int v13, .ref v14, .int (Int32.ofInt 0)])) fun _ =>
  lm_bind (lm_gR 3646 x0) fun v15 =>
  lm_bind (lm_sel [(9, 257)] (some (.ref x0))) fun y16 =>
  lm_bind (lm_asI (A y16 [.ref x0])) fun v17 =>
  lm_bind (lm_sel [(5, 140), (6, 140), (7, 140)] (some (.ref x5))) fun y18 =>
  lm_bind (lm_asV (A y18 [.ref x5, .ref v15, .int (Int32.ofInt 0), .int ((Int32.ofInt 32) * v17)])) fun _ =>
  B (129, [(0, .ref x0), (3, .ref x3), (4, .ref x4), (5, .ref x5), (6, .int (x6 + Int32.ofInt 1))], []))
set_option maxRecDepth 100000 in
theorem lm_e175_129 {sc : lm_H} {d : Nat} {x0 : Nat} {x3 : Nat} {x4 : Nat} {x5 : Nat} {x6 : Int32} {σ : lm_S} {r : Except Nat lm_R × lm_S} (h : lm_q175_129 sc (lm_cal sc d) (lm_rn sc d lm_m175.2.2.2.2.1 (lm_reg lm_m175.2.2.2.2.2)) x0 x3 x4 x5 x6  σ = some r) : lm_rn sc d lm_m175.2.2.2.2.1 (lm_reg lm_m175.2.2.2.2.2) (129, [(0, .ref x0), (3, .ref x3), (4, .ref x4), (5, .ref x5), (6, .int x6)], []) σ = some r := lm_rn_of h
/-- LatticeSuite$Slh.choose, from 0 on -/
noncomputable def lm_q176_0 (sc : lm_H) (A : Nat → List Value → lm_M lm_R) (B : lm_F → lm_M lm_R) (x0 : Nat) (x1 : Int32) : lm_M lm_R :=
  lm_when (¬ (Int32.ofInt 6) = 0) inferInstance (lm_if .ge x1 (Int32.ofInt 6) (B (17, [(0, .ref x0), (2, .int (lm_rem x1 (Int32.ofInt 6)))], [.int (Int32.ofInt 0), .ref x0])) (B (17, [(0, .ref x0), (2, .int (lm_rem x1 (Int32.ofInt 6)))], [.int (Int32.ofInt 1), .ref x0])))
set_option maxRecDepth 100000 in
theorem lm_e176_0 {sc : lm_H} {d : Nat} {x0 : Nat} {x1 : Int32} {σ : lm_S} {r : Except Nat lm_R × lm_S} (h : lm_q176_0 sc (lm_cal sc d) (lm_rn sc d lm_m176.2.2.2.2.1 (lm_reg lm_m176.2.2.2.2.2)) x0 x1  σ = some r) : lm_rn sc d lm_m176.2.2.2.2.1 (lm_reg lm_m176.2.2.2.2.2) (0, [(0, .ref x0), (1, .int x1)], []) σ = some r := lm_rn_of h
/-- LatticeSuite$Slh.choose, from 17 on -/
noncomputable def lm_q176_17 (sc : lm_H) (A : Nat → List Value → lm_M lm_R) (B : lm_F → lm_M lm_R) (x0 : Nat) (x2 : Int32) (s0 : Int32) (s1 : Nat) : lm_M lm_R :=
  lm_bind (lm_putf 4015 s1 (.int s0)) fun _ =>
  lm_bind (lm_iald sc (lm_B + 16) x2) fun v1 =>
  lm_bind (lm_putf 4016 x0 (.int v1)) fun _ =>
  lm_bind (lm_iald sc (lm_B + 17) x2) fun v2 =>
  lm_bind (lm_putf 4020 x0 (.int v2)) fun _ =>
  lm_bind (lm_iald sc (lm_B + 18) x2) fun v3 =>
  lm_bind (lm_gI 4020 x0) fun v4 =>
  lm_when (¬ v4 = 0) inferInstance (lm_bind (lm_putf 4024 x0 (.int (v3 / v4))) fun _ =>
  lm_bind (lm_iald sc (lm_B + 18) x2) fun v5 =>
  lm_bind (lm_gI 4024 x0) fun v6 =>
  lm_bind (lm_putf 4040 x0 (.int (v5 - v6))) fun _ =>
  lm_bind (lm_iald sc (lm_B + 19) x2) fun v7 =>
  lm_bind (lm_putf 4028 x0 (.int v7)) fun _ =>
  lm_bind (lm_iald sc (lm_B + 20) x2) fun v8 =>
  lm_bind (lm_putf 4032 x0 (.int v8)) fun _ =>
  lm_bind (lm_gI 4016 x0) fun v9 =>
  lm_bind (lm_putf 4036 x0 (.int (((Int32.ofInt 2) * v9) + (Int32.ofInt 3)))) fun _ =>
  lm_bind (lm_gI 4015 x0) fun v10 =>
  lm_if .eq v10 0 (lm_bind (lm_gI 4016 x0) fun v11 =>
  lm_if .ne v11 (Int32.ofInt 16) (B (123, [(0, .ref x0)], [.int (Int32.ofInt 3), .ref x0])) (B (123, [(0, .ref x0)], [.int (Int32.ofInt 1), .ref x0]))) (B (123, [(0, .ref x0)], [.int (Int32.ofInt 12), .ref x0])))
set_option maxRecDepth 100000 in
theorem lm_e176_17 {sc : lm_H} {d : Nat} {x0 : Nat} {x2 : Int32} {s0 : Int32} {s1 : Nat} {σ : lm_S} {r : Except Nat lm_R × lm_S} (h : lm_q176_17 sc (lm_cal sc d) (lm_rn sc d lm_m176.2.2.2.2.1 (lm_reg lm_m176.2.2.2.2.2)) x0 x2 s0 s1 σ = some r) : lm_rn sc d lm_m176.2.2.2.2.1 (lm_reg lm_m176.2.2.2.2.2) (17, [(0, .ref x0), (2, .int x2)], [.int s0, .ref s1]) σ = some r := lm_rn_of h
/-- LatticeSuite$Slh.choose, from 123 on -/
noncomputable def lm_q176_123 (sc : lm_H) (A : Nat → List Value → lm_M lm_R) (B : lm_F → lm_M lm_R) (x0 : Nat) (s0 : Int32) (s1 : Nat) : lm_M lm_R :=
  lm_bind (lm_putf 4044 s1 (.int s0)) fun _ =>
  lm_bind (lm_gR 4002 x0) fun v1 =>
  lm_bind (lm_gI 4015 x0) fun v2 =>
  lm_if .eq v2 0 (B (144, [(0, .ref x0)], [.int (Int32.ofInt 1), .ref v1, .ref x0])) (B (144, [(0, .ref x0)], [.int (Int32.ofInt 12), .ref v1, .ref x0]))
set_option maxRecDepth 100000 in
theorem lm_e176_123 {sc : lm_H} {d : Nat} {x0 : Nat} {s0 : Int32} {s1 : Nat} {σ : lm_S} {r : Except Nat lm_R × lm_S} (h : lm_q176_123 sc (lm_cal sc d) (lm_rn sc d lm_m176.2.2.2.2.1 (lm_reg lm_m176.2.2.2.2.2)) x0 s0 s1 σ = some r) : lm_rn sc d lm_m176.2.2.2.2.1 (lm_reg lm_m176.2.2.2.2.2) (123, [(0, .ref x0)], [.int s0, .ref s1]) σ = some r := lm_rn_of h
/-- LatticeSuite$Slh.choose, from 144 on -/
noncomputable def lm_q176_144 (sc : lm_H) (A : Nat → List Value → lm_M lm_R) (B : lm_F → lm_M lm_R) (x0 : Nat) (s0 : Int32) (s1 : Nat) (s2 : Nat) : lm_M lm_R :=
  lm_bind (lm_sel [(2, 204)] (some (.ref s1))) fun y1 =>
  lm_bind (lm_asR (A y1 [.ref s1, .int s0])) fun v2 =>
  lm_bind (lm_putf 4006 s2 (.ref v2)) fun _ =>
  lm_bind (lm_gR 4002 x0) fun v3 =>
  lm_bind (lm_gI 4044 x0) fun v4 =>
  lm_bind (lm_sel [(2, 204)] (some (.ref v3))) fun y5 =>
  lm_bind (lm_asR (A y5 [.ref v3, .int v4])) fun v6 =>
  lm_bind (lm_putf 4010 x0 (.ref v6)) fun _ =>
  lm_bind (lm_gR 4050 x0) fun v7 =>
  lm_bind (lm_asV (A 199 [.ref v7, .int (Int32.ofInt 0)])) fun _ =>
  lm_ret none
set_option maxRecDepth 100000 in
theorem lm_e176_144 {sc : lm_H} {d : Nat} {x0 : Nat} {s0 : Int32} {s1 : Nat} {s2 : Nat} {σ : lm_S} {r : Except Nat lm_R × lm_S} (h : lm_q176_144 sc (lm_cal sc d) (lm_rn sc d lm_m176.2.2.2.2.1 (lm_reg lm_m176.2.2.2.2.2)) x0 s0 s1 s2 σ = some r) : lm_rn sc d lm_m176.2.2.2.2.1 (lm_reg lm_m176.2.2.2.2.2) (144, [(0, .ref x0)], [.int s0, .ref s1, .ref s2]) σ = some r := lm_rn_of h
/-- LatticeSuite$Slh.keys, from 0 on -/
noncomputable def lm_q177_0 (sc : lm_H) (A : Nat → List Value → lm_M lm_R) (B : lm_F → lm_M lm_R) (x0 : Nat) (x1 : Nat) (x2 : Nat) (x3 : Nat) : lm_M lm_R :=
  lm_bind (lm_gR 402 x3) fun v1 =>
  lm_bind (lm_gI 4016 x0) fun v2 =>
  lm_bind (lm_copy sc x1 (Int32.ofInt 0) v1 (Int32.ofInt 0) ((Int32.ofInt 3) * v2)) fun _ =>
  lm_bind (lm_gR 402 x3) fun v3 =>
  lm_bind (lm_sel [(10, 192)] (some (.ref x0))) fun y4 =>
  lm_bind (lm_asV (A y4 [.ref x0, .ref v3])) fun _ =>
  lm_bind (lm_gI 4020 x0) fun v5 =>
  lm_bind (lm_sel [(10, 193)] (some (.ref x0))) fun y6 =>
  lm_bind (lm_asV (A y6 [.ref x0, .int (v5 - (Int32.ofInt 1)), .long (Int64.ofNat 0)])) fun _ =>
  lm_bind (lm_gI 4024 x0) fun v7 =>
  lm_bind (lm_gR 402 x3) fun v8 =>
  lm_bind (lm_gI 4016 x0) fun v9 =>
  lm_bind (lm_sel [(10, 194)] (some (.ref x0))) fun y10 =>
  lm_bind (lm_asV (A y10 [.ref x0, .int (Int32.ofInt 2), .int (Int32.ofInt 0), .int v7, .int (Int32.ofInt 0), .ref v8, .int ((Int32.ofInt 3) * v9)])) fun _ =>
  lm_bind (lm_gI 4016 x0) fun v11 =>
  lm_bind (lm_putf 404 x3 (.int ((Int32.ofInt 4) * v11))) fun _ =>
  lm_bind (lm_gR 402 x3) fun v12 =>
  lm_bind (lm_gI 4016 x0) fun v13 =>
  lm_bind (lm_gR 402 x2) fun v14 =>
  lm_bind (lm_gI 4016 x0) fun v15 =>
  lm_bind (lm_copy sc v12 ((Int32.ofInt 2) * v13) v14 (Int32.ofInt 0) ((Int32.ofInt 2) * v15)) fun _ =>
  lm_bind (lm_gI 4016 x0) fun v16 =>
  lm_bind (lm_putf 404 x2 (.int ((Int32.ofInt 2) * v16))) fun _ =>
  lm_ret none
set_option maxRecDepth 100000 in
theorem lm_e177_0 {sc : lm_H} {d : Nat} {x0 : Nat} {x1 : Nat} {x2 : Nat} {x3 : Nat} {σ : lm_S} {r : Except Nat lm_R × lm_S} (h : lm_q177_0 sc (lm_cal sc d) (lm_rn sc d lm_m177.2.2.2.2.1 (lm_reg lm_m177.2.2.2.2.2)) x0 x1 x2 x3  σ = some r) : lm_rn sc d lm_m177.2.2.2.2.1 (lm_reg lm_m177.2.2.2.2.2) (0, [(0, .ref x0), (1, .ref x1), (2, .ref x2), (3, .ref x3)], []) σ = some r := lm_rn_of h
/-- LatticeSuiteModel.leaf, from 0 on -/
noncomputable def lm_q178_0 (sc : lm_H) (A : Nat → List Value → lm_M lm_R) (B : lm_F → lm_M lm_R) (x0 : Nat) (x1 : Int32) (x2 : Nat) (x3 : Int32) : lm_M lm_R :=
  B (3, [(0, .ref x0), (1, .int x1), (2, .ref x2), (3, .int x3), (4, .int (Int32.ofInt 0))], [])
set_option maxRecDepth 100000 in
theorem lm_e178_0 {sc : lm_H} {d : Nat} {x0 : Nat} {x1 : Int32} {x2 : Nat} {x3 : Int32} {σ : lm_S} {r : Except Nat lm_R × lm_S} (h : lm_q178_0 sc (lm_cal sc d) (lm_rn sc d lm_m178.2.2.2.2.1 (lm_reg lm_m178.2.2.2.2.2)) x0 x1 x2 x3  σ = some r) : lm_rn sc d lm_m178.2.2.2.2.1 (lm_reg lm_m178.2.2.2.2.2) (0, [(0, .ref x0), (1, .int x1), (2, .ref x2), (3, .int x3)], []) σ = some r := lm_rn_of h
/-- LatticeSuiteModel.leaf, from 3 on -/
noncomputable def lm_q178_3 (sc : lm_H) (A : Nat → List Value → lm_M lm_R) (B : lm_F → lm_M lm_R) (x0 : Nat) (x1 : Int32) (x2 : Nat) (x3 : Int32) (x4 : Int32) : lm_M lm_R :=
  lm_bind (lm_gI 4692 x0) fun v1 =>
  lm_if .ge x4 v1 (lm_bind (lm_sel [(11, 179)] (some (.ref x0))) fun y2 =>
  lm_bind (lm_asV (A y2 [.ref x0, .int (Int32.ofInt 1), .int x1, .int (Int32.ofInt 0), .int (Int32.ofInt 0)])) fun _ =>
  lm_bind (lm_gR 4626 x0) fun v3 =>
  lm_bind (lm_gI 4692 x0) fun v4 =>
  lm_bind (lm_gI 4668 x0) fun v5 =>
  lm_bind (lm_sel [(11, 180)] (some (.ref x0))) fun y6 =>
  lm_bind (lm_asV (A y6 [.ref x0, .ref v3, .int (Int32.ofInt 0), .int (v4 * v5), .ref x2, .int x3])) fun _ =>
  lm_ret none) (lm_bind (lm_sel [(11, 179)] (some (.ref x0))) fun y7 =>
  lm_bind (lm_asV (A y7 [.ref x0, .int (Int32.ofInt 5), .int x1, .int x4, .int (Int32.ofInt 0)])) fun _ =>
  lm_bind (lm_gR 4626 x0) fun v8 =>
  lm_bind (lm_gI 4668 x0) fun v9 =>
  lm_bind (lm_sel [(11, 186)] (some (.ref x0))) fun y10 =>
  lm_bind (lm_asV (A y10 [.ref x0, .ref v8, .int (x4 * v9)])) fun _ =>
  lm_bind (lm_gR 4626 x0) fun v11 =>
  lm_bind (lm_gI 4668 x0) fun v12 =>
  lm_bind (lm_sel [(11, 190)] (some (.ref x0))) fun y13 =>
  lm_bind (lm_asV (A y13 [.ref x0, .int x1, .int x4, .int (Int32.ofInt 0), .int (Int32.ofInt 15), .ref v11, .int (x4 * v12)])) fun _ =>
  B (3, [(0, .ref x0), (1, .int x1), (2, .ref x2), (3, .int x3), (4, .int (x4 + Int32.ofInt 1))], []))
set_option maxRecDepth 100000 in
theorem lm_e178_3 {sc : lm_H} {d : Nat} {x0 : Nat} {x1 : Int32} {x2 : Nat} {x3 : Int32} {x4 : Int32} {σ : lm_S} {r : Except Nat lm_R × lm_S} (h : lm_q178_3 sc (lm_cal sc d) (lm_rn sc d lm_m178.2.2.2.2.1 (lm_reg lm_m178.2.2.2.2.2)) x0 x1 x2 x3 x4  σ = some r) : lm_rn sc d lm_m178.2.2.2.2.1 (lm_reg lm_m178.2.2.2.2.2) (3, [(0, .ref x0), (1, .int x1), (2, .ref x2), (3, .int x3), (4, .int x4)], []) σ = some r := lm_rn_of h
/-- LatticeSuiteModel.type, from 0 on -/
noncomputable def lm_q179_0 (sc : lm_H) (A : Nat → List Value → lm_M lm_R) (B : lm_F → lm_M lm_R) (x0 : Nat) (x1 : Int32) (x2 : Int32) (x3 : Int32) (x4 : Int32) : lm_M lm_R :=
  B (3, [(0, .ref x0), (1, .int x1), (2, .int x2), (3, .int x3), (4, .int x4), (5, .int (Int32.ofInt 0))], [])
set_option maxRecDepth 100000 in
theorem lm_e179_0 {sc : lm_H} {d : Nat} {x0 : Nat} {x1 : Int32} {x2 : Int32} {x3 : Int32} {x4 : Int32} {σ : lm_S} {r : Except Nat lm_R × lm_S} (h : lm_q179_0 sc (lm_cal sc d) (lm_rn sc d lm_m179.2.2.2.2.1 (lm_reg lm_m179.2.2.2.2.2)) x0 x1 x2 x3 x4  σ = some r) : lm_rn sc d lm_m179.2.2.2.2.1 (lm_reg lm_m179.2.2.2.2.2) (0, [(0, .ref x0), (1, .int x1), (2, .int x2), (3, .int x3), (4, .int x4)], []) σ = some r := lm_rn_of h
/-- LatticeSuiteModel.type, from 3 on -/
noncomputable def lm_q179_3 (sc : lm_H) (A : Nat → List Value → lm_M lm_R) (B : lm_F → lm_M lm_R) (x0 : Nat) (x1 : Int32) (x2 : Int32) (x3 : Int32) (x4 : Int32) (x5 : Int32) : lm_M lm_R :=
  lm_if .ge x5 (Int32.ofInt 4) (lm_ret none) (lm_bind (lm_gR 4618 x0) fun v1 =>
  lm_bind (lm_bast v1 ((Int32.ofInt 16) + x5) (lm_b8 (x1 >>> (((Int32.ofInt 24) - ((Int32.ofInt 8) * x5)) &&& 31)))) fun _ =>
  lm_bind (lm_gR 4618 x0) fun v2 =>
  lm_bind (lm_bast v2 ((Int32.ofInt 20) + x5) (lm_b8 (x2 >>> (((Int32.ofInt 24) - ((Int32.ofInt 8) * x5)) &&& 31)))) fun _ =>
  lm_bind (lm_gR 4618 x0) fun v3 =>
  lm_bind (lm_bast v3 ((Int32.ofInt 24) + x5) (lm_b8 (x3 >>> (((Int32.ofInt 24) - ((Int32.ofInt 8) * x5)) &&& 31)))) fun _ =>
  lm_bind (lm_gR 4618 x0) fun v4 =>
  lm_bind (lm_bast v4 ((Int32.ofInt 28) + x5) (lm_b8 (x4 >>> (((Int32.ofInt 24) - ((Int32.ofInt 8) * x5)) &&& 31)))) fun _ =>
  B (3, [(0, .ref x0), (1, .int x1), (2, .int x2), (3, .int x3), (4, .int x4), (5, .int (x5 + Int32.ofInt 1))], []))
set_option maxRecDepth 100000 in
theorem lm_e179_3 {sc : lm_H} {d : Nat} {x0 : Nat} {x1 : Int32} {x2 : Int32} {x3 : Int32} {x4 : Int32} {x5 : Int32} {σ : lm_S} {r : Except Nat lm_R × lm_S} (h : lm_q179_3 sc (lm_cal sc d) (lm_rn sc d lm_m179.2.2.2.2.1 (lm_reg lm_m179.2.2.2.2.2)) x0 x1 x2 x3 x4 x5  σ = some r) : lm_rn sc d lm_m179.2.2.2.2.1 (lm_reg lm_m179.2.2.2.2.2) (3, [(0, .ref x0), (1, .int x1), (2, .int x2), (3, .int x3), (4, .int x4), (5, .int x5)], []) σ = some r := lm_rn_of h
/-- LatticeSuiteModel.hashed, from 0 on -/
noncomputable def lm_q180_0 (sc : lm_H) (A : Nat → List Value → lm_M lm_R) (B : lm_F → lm_M lm_R) (x0 : Nat) (x1 : Nat) (x2 : Int32) (x3 : Int32) (x4 : Nat) (x5 : Int32) : lm_M lm_R :=
  lm_bind (lm_gI 4699 x0) fun v1 =>
  lm_if .eq v1 0 (lm_bind (lm_gI 4668 x0) fun v2 =>
  lm_if .le v2 (Int32.ofInt 16) (B (84, [(0, .ref x0), (1, .ref x1), (2, .int x2), (3, .int x3), (4, .ref x4), (5, .int x5)], [])) (lm_bind (lm_gI 4668 x0) fun v3 =>
  lm_if .le x3 v3 (B (84, [(0, .ref x0), (1, .ref x1), (2, .int x2), (3, .int x3), (4, .ref x4), (5, .int x5)], [])) (lm_bind (lm_gR 4618 x0) fun v4 =>
  lm_bind (lm_bald sc v4 (Int32.ofInt 19)) fun v5 =>
  lm_if .eq v5 (Int32.ofInt 5) (B (84, [(0, .ref x0), (1, .ref x1), (2, .int x2), (3, .int x3), (4, .ref x4), (5, .int x5)], [])) (lm_bind (lm_gR 4618 x0) fun v6 =>
  lm_bind (lm_bald sc v6 (Int32.ofInt 19)) fun v7 =>
  lm_if .eq v7 (Int32.ofInt 6) (B (84, [(0, .ref x0), (1, .ref x1), (2, .int x2), (3, .int x3), (4, .ref x4), (5, .int x5)], [])) (B (85, [(0, .ref x0), (1, .ref x1), (2, .int x2), (3, .int x3), (4, .ref x4), (5, .int x5)], [.int (Int32.ofInt 1)])))))) (lm_bind (lm_sel [(11, 61)] (some (.ref x0))) fun y8 =>
  lm_bind (lm_asV (A y8 [.ref x0, .int (Int32.ofInt 12)])) fun _ =>
  lm_bind (lm_gR 4654 x0) fun v9 =>
  lm_bind (lm_gI 4668 x0) fun v10 =>
  lm_bind (lm_sel [(11, 62)] (some (.ref x0))) fun y11 =>
  lm_bind (lm_asV (A y11 [.ref x0, .ref v9, .int (Int32.ofInt 0), .int v10])) fun _ =>
  lm_bind (lm_gR 4618 x0) fun v12 =>
  lm_bind (lm_sel [(11, 62)] (some (.ref x0))) fun y13 =>
  lm_bind (lm_asV (A y13 [.ref x0, .ref v12, .int (Int32.ofInt 0), .int (Int32.ofInt 32)])) fun _ =>
  B (194, [(0, .ref x0), (1, .ref x1), (2, .int x2), (3, .int x3), (4, .ref x4), (5, .int x5)], []))
set_option maxRecDepth 100000 in
theorem lm_e180_0 {sc : lm_H} {d : Nat} {x0 : Nat} {x1 : Nat} {x2 : Int32} {x3 : Int32} {x4 : Nat} {x5 : Int32} {σ : lm_S} {r : Except Nat lm_R × lm_S} (h : lm_q180_0 sc (lm_cal sc d) (lm_rn sc d lm_m180.2.2.2.2.1 (lm_reg lm_m180.2.2.2.2.2)) x0 x1 x2 x3 x4 x5  σ = some r) : lm_rn sc d lm_m180.2.2.2.2.1 (lm_reg lm_m180.2.2.2.2.2) (0, [(0, .ref x0), (1, .ref x1), (2, .int x2), (3, .int x3), (4, .ref x4), (5, .int x5)], []) σ = some r := lm_rn_of h
/-- LatticeSuiteModel.hashed, from 84 on -/
noncomputable def lm_q180_84 (sc : lm_H) (A : Nat → List Value → lm_M lm_R) (B : lm_F → lm_M lm_R) (x0 : Nat) (x1 : Nat) (x2 : Int32) (x3 : Int32) (x4 : Nat) (x5 : Int32) : lm_M lm_R :=
  B (85, [(0, .ref x0), (1, .ref x1), (2, .int x2), (3, .int x3), (4, .ref x4), (5, .int x5)], [.int (Int32.ofInt 0)])
set_option maxRecDepth 100000 in
theorem lm_e180_84 {sc : lm_H} {d : Nat} {x0 : Nat} {x1 : Nat} {x2 : Int32} {x3 : Int32} {x4 : Nat} {x5 : Int32} {σ : lm_S} {r : Except Nat lm_R × lm_S} (h : lm_q180_84 sc (lm_cal sc d) (lm_rn sc d lm_m180.2.2.2.2.1 (lm_reg lm_m180.2.2.2.2.2)) x0 x1 x2 x3 x4 x5  σ = some r) : lm_rn sc d lm_m180.2.2.2.2.1 (lm_reg lm_m180.2.2.2.2.2) (84, [(0, .ref x0), (1, .ref x1), (2, .int x2), (3, .int x3), (4, .ref x4), (5, .int x5)], []) σ = some r := lm_rn_of h
/-- LatticeSuiteModel.hashed, from 85 on -/
noncomputable def lm_q180_85 (sc : lm_H) (A : Nat → List Value → lm_M lm_R) (B : lm_F → lm_M lm_R) (x0 : Nat) (x1 : Nat) (x2 : Int32) (x3 : Int32) (x4 : Nat) (x5 : Int32) (s0 : Int32) : lm_M lm_R :=
  lm_if .eq s0 0 (B (98, [(0, .ref x0), (1, .ref x1), (2, .int x2), (3, .int x3), (4, .ref x4), (5, .int x5), (6, .int s0)], [.int (Int32.ofInt 1), .ref x0])) (B (98, [(0, .ref x0), (1, .ref x1), (2, .int x2), (3, .int x3), (4, .ref x4), (5, .int x5), (6, .int s0)], [.int (Int32.ofInt 3), .ref x0]))
set_option maxRecDepth 100000 in
theorem lm_e180_85 {sc : lm_H} {d : Nat} {x0 : Nat} {x1 : Nat} {x2 : Int32} {x3 : Int32} {x4 : Nat} {x5 : Int32} {s0 : Int32} {σ : lm_S} {r : Except Nat lm_R × lm_S} (h : lm_q180_85 sc (lm_cal sc d) (lm_rn sc d lm_m180.2.2.2.2.1 (lm_reg lm_m180.2.2.2.2.2)) x0 x1 x2 x3 x4 x5 s0 σ = some r) : lm_rn sc d lm_m180.2.2.2.2.1 (lm_reg lm_m180.2.2.2.2.2) (85, [(0, .ref x0), (1, .ref x1), (2, .int x2), (3, .int x3), (4, .ref x4), (5, .int x5)], [.int s0]) σ = some r := lm_rn_of h
/-- LatticeSuiteModel.hashed, from 194 on -/
noncomputable def lm_q180_194 (sc : lm_H) (A : Nat → List Value → lm_M lm_R) (B : lm_F → lm_M lm_R) (x0 : Nat) (x1 : Nat) (x2 : Int32) (x3 : Int32) (x4 : Nat) (x5 : Int32) : lm_M lm_R :=
  lm_bind (lm_sel [(11, 62)] (some (.ref x0))) fun y1 =>
  lm_bind (lm_asV (A y1 [.ref x0, .ref x1, .int x2, .int x3])) fun _ =>
  lm_bind (lm_gI 4668 x0) fun v2 =>
  lm_bind (lm_sel [(11, 63)] (some (.ref x0))) fun y3 =>
  lm_bind (lm_asV (A y3 [.ref x0, .ref x4, .int x5, .int v2])) fun _ =>
  lm_ret none
set_option maxRecDepth 100000 in
theorem lm_e180_194 {sc : lm_H} {d : Nat} {x0 : Nat} {x1 : Nat} {x2 : Int32} {x3 : Int32} {x4 : Nat} {x5 : Int32} {σ : lm_S} {r : Except Nat lm_R × lm_S} (h : lm_q180_194 sc (lm_cal sc d) (lm_rn sc d lm_m180.2.2.2.2.1 (lm_reg lm_m180.2.2.2.2.2)) x0 x1 x2 x3 x4 x5  σ = some r) : lm_rn sc d lm_m180.2.2.2.2.1 (lm_reg lm_m180.2.2.2.2.2) (194, [(0, .ref x0), (1, .ref x1), (2, .int x2), (3, .int x3), (4, .ref x4), (5, .int x5)], []) σ = some r := lm_rn_of h
/-- LatticeSuiteModel.hashed, from 98 on -/
noncomputable def lm_q180_98 (sc : lm_H) (A : Nat → List Value → lm_M lm_R) (B : lm_F → lm_M lm_R) (x0 : Nat) (x1 : Nat) (x2 : Int32) (x3 : Int32) (x4 : Nat) (x5 : Int32) (x6 : Int32) (s0 : Int32) (s1 : Nat) : lm_M lm_R :=
  lm_bind (lm_sel [(11, 61)] (some (.ref s1))) fun y1 =>
  lm_bind (lm_asV (A y1 [.ref s1, .int s0])) fun _ =>
  lm_bind (lm_gR 4654 x0) fun v2 =>
  lm_bind (lm_gI 4668 x0) fun v3 =>
  lm_bind (lm_sel [(11, 62)] (some (.ref x0))) fun y4 =>
  lm_bind (lm_asV (A y4 [.ref x0, .ref v2, .int (Int32.ofInt 0), .int v3])) fun _ =>
  lm_bind (lm_gI 4668 x0) fun v5 =>
  B (120, [(0, .ref x0), (1, .ref x1), (2, .int x2), (3, .int x3), (4, .ref x4), (5, .int x5), (6, .int x6), (7, .int v5)], [])
set_option maxRecDepth 100000 in
theorem lm_e180_98 {sc : lm_H} {d : Nat} {x0 : Nat} {x1 : Nat} {x2 : Int32} {x3 : Int32} {x4 : Nat} {x5 : Int32} {x6 : Int32} {s0 : Int32} {s1 : Nat} {σ : lm_S} {r : Except Nat lm_R × lm_S} (h : lm_q180_98 sc (lm_cal sc d) (lm_rn sc d lm_m180.2.2.2.2.1 (lm_reg lm_m180.2.2.2.2.2)) x0 x1 x2 x3 x4 x5 x6 s0 s1 σ = some r) : lm_rn sc d lm_m180.2.2.2.2.1 (lm_reg lm_m180.2.2.2.2.2) (98, [(0, .ref x0), (1, .ref x1), (2, .int x2), (3, .int x3), (4, .ref x4), (5, .int x5), (6, .int x6)], [.int s0, .ref s1]) σ = some r := lm_rn_of h
/-- LatticeSuiteModel.hashed, from 120 on -/
noncomputable def lm_q180_120 (sc : lm_H) (A : Nat → List Value → lm_M lm_R) (B : lm_F → lm_M lm_R) (x0 : Nat) (x1 : Nat) (x2 : Int32) (x3 : Int32) (x4 : Nat) (x5 : Int32) (x6 : Int32) (x7 : Int32) : lm_M lm_R :=
  lm_if .eq x6 0 (B (135, [(0, .ref x0), (1, .ref x1), (2, .int x2), (3, .int x3), (4, .ref x4), (5, .int x5), (6, .int x6), (7, .int x7)], [.int (Int32.ofInt 64), .int x7])) (B (135, [(0, .ref x0), (1, .ref x1), (2, .int x2), (3, .int x3), (4, .ref x4), (5, .int x5), (6, .int x6), (7, .int x7)], [.int (Int32.ofInt 128), .int x7]))
set_option maxRecDepth 100000 in
theorem lm_e180_120 {sc : lm_H} {d : Nat} {x0 : Nat} {x1 : Nat} {x2 : Int32} {x3 : Int32} {x4 : Nat} {x5 : Int32} {x6 : Int32} {x7 : Int32} {σ : lm_S} {r : Except Nat lm_R × lm_S} (h : lm_q180_120 sc (lm_cal sc d) (lm_rn sc d lm_m180.2.2.2.2.1 (lm_reg lm_m180.2.2.2.2.2)) x0 x1 x2 x3 x4 x5 x6 x7  σ = some r) : lm_rn sc d lm_m180.2.2.2.2.1 (lm_reg lm_m180.2.2.2.2.2) (120, [(0, .ref x0), (1, .ref x1), (2, .int x2), (3, .int x3), (4, .ref x4), (5, .int x5), (6, .int x6), (7, .int x7)], []) σ = some r := lm_rn_of h
/-- LatticeSuiteModel.hashed, from 135 on -/
noncomputable def lm_q180_135 (sc : lm_H) (A : Nat → List Value → lm_M lm_R) (B : lm_F → lm_M lm_R) (x0 : Nat) (x1 : Nat) (x2 : Int32) (x3 : Int32) (x4 : Nat) (x5 : Int32) (x6 : Int32) (x7 : Int32) (s0 : Int32) (s1 : Int32) : lm_M lm_R :=
  lm_if .ge s1 s0 (lm_bind (lm_gR 4618 x0) fun v1 =>
  lm_bind (lm_bald sc v1 (Int32.ofInt 3)) fun v2 =>
  lm_bind (lm_sel [(11, 69)] (some (.ref x0))) fun y3 =>
  lm_bind (lm_asV (A y3 [.ref x0, .int v2])) fun _ =>
  lm_bind (lm_gR 4618 x0) fun v4 =>
  lm_bind (lm_sel [(11, 62)] (some (.ref x0))) fun y5 =>
  lm_bind (lm_asV (A y5 [.ref x0, .ref v4, .int (Int32.ofInt 8), .int (Int32.ofInt 8)])) fun _ =>
  lm_bind (lm_gR 4618 x0) fun v6 =>
  lm_bind (lm_bald sc v6 (Int32.ofInt 19)) fun v7 =>
  lm_bind (lm_sel [(11, 69)] (some (.ref x0))) fun y8 =>
  lm_bind (lm_asV (A y8 [.ref x0, .int v7])) fun _ =>
  lm_bind (lm_gR 4618 x0) fun v9 =>
  lm_bind (lm_sel [(11, 62)] (some (.ref x0))) fun y10 =>
  lm_bind (lm_asV (A y10 [.ref x0, .ref v9, .int (Int32.ofInt 20), .int (Int32.ofInt 12)])) fun _ =>
  B (194, [(0, .ref x0), (1, .ref x1), (2, .int x2), (3, .int x3), (4, .ref x4), (5, .int x5)], [])) (lm_bind (lm_sel [(11, 69)] (some (.ref x0))) fun y11 =>
  lm_bind (lm_asV (A y11 [.ref x0, .int (Int32.ofInt 0)])) fun _ =>
  B (120, [(0, .ref x0), (1, .ref x1), (2, .int x2), (3, .int x3), (4, .ref x4), (5, .int x5), (6, .int x6), (7, .int (x7 + Int32.ofInt 1))], []))
set_option maxRecDepth 100000 in
theorem lm_e180_135 {sc : lm_H} {d : Nat} {x0 : Nat} {x1 : Nat} {x2 : Int32} {x3 : Int32} {x4 : Nat} {x5 : Int32} {x6 : Int32} {x7 : Int32} {s0 : Int32} {s1 : Int32} {σ : lm_S} {r : Except Nat lm_R × lm_S} (h : lm_q180_135 sc (lm_cal sc d) (lm_rn sc d lm_m180.2.2.2.2.1 (lm_reg lm_m180.2.2.2.2.2)) x0 x1 x2 x3 x4 x5 x6 x7 s0 s1 σ = some r) : lm_rn sc d lm_m180.2.2.2.2.1 (lm_reg lm_m180.2.2.2.2.2) (135, [(0, .ref x0), (1, .ref x1), (2, .int x2), (3, .int x3), (4, .ref x4), (5, .int x5), (6, .int x6), (7, .int x7)], [.int s0, .int s1]) σ = some r := lm_rn_of h
