/-- LatticeSuite$Slh.startSign, from 0 on -/
noncomputable def lm_q181_0 (sc : lm_H) (A : Nat → List Value → lm_M lm_R) (B : lm_F → lm_M lm_R) (x0 : Nat) (x1 : Nat) (x2 : Nat) (x3 : Nat) (x4 : Nat) : lm_M lm_R :=
  lm_bind (lm_gI 404 x2) fun v1 =>
  lm_if .ne v1 0 (B (12, [(0, .ref x0), (1, .ref x1), (2, .ref x2), (3, .ref x3), (4, .ref x4)], [.int (Int32.ofInt 0)])) (B (12, [(0, .ref x0), (1, .ref x1), (2, .ref x2), (3, .ref x3), (4, .ref x4)], [.int (Int32.ofInt 1)]))
set_option maxRecDepth 100000 in
theorem lm_e181_0 {sc : lm_H} {d : Nat} {x0 : Nat} {x1 : Nat} {x2 : Nat} {x3 : Nat} {x4 : Nat} {σ : lm_S} {r : Except Nat lm_R × lm_S} (h : lm_q181_0 sc (lm_cal sc d) (lm_rn sc d lm_m181.2.2.2.2.1 (lm_reg lm_m181.2.2.2.2.2)) x0 x1 x2 x3 x4  σ = some r) : lm_rn sc d lm_m181.2.2.2.2.1 (lm_reg lm_m181.2.2.2.2.2) (0, [(0, .ref x0), (1, .ref x1), (2, .ref x2), (3, .ref x3), (4, .ref x4)], []) σ = some r := lm_rn_of h
/-- LatticeSuite$Slh.startSign, from 12 on -/
noncomputable def lm_q181_12 (sc : lm_H) (A : Nat → List Value → lm_M lm_R) (B : lm_F → lm_M lm_R) (x0 : Nat) (x1 : Nat) (x2 : Nat) (x3 : Nat) (x4 : Nat) (s0 : Int32) : lm_M lm_R :=
  lm_if .eq s0 0 (lm_bind (lm_gR 402 x2) fun v1 =>
  B (29, [(0, .ref x0), (1, .ref x1), (3, .ref x3), (4, .ref x4), (5, .int s0)], [.ref v1, .ref x1, .ref x0])) (B (29, [(0, .ref x0), (1, .ref x1), (3, .ref x3), (4, .ref x4), (5, .int s0)], [.ref x1, .ref x1, .ref x0]))
set_option maxRecDepth 100000 in
theorem lm_e181_12 {sc : lm_H} {d : Nat} {x0 : Nat} {x1 : Nat} {x2 : Nat} {x3 : Nat} {x4 : Nat} {s0 : Int32} {σ : lm_S} {r : Except Nat lm_R × lm_S} (h : lm_q181_12 sc (lm_cal sc d) (lm_rn sc d lm_m181.2.2.2.2.1 (lm_reg lm_m181.2.2.2.2.2)) x0 x1 x2 x3 x4 s0 σ = some r) : lm_rn sc d lm_m181.2.2.2.2.1 (lm_reg lm_m181.2.2.2.2.2) (12, [(0, .ref x0), (1, .ref x1), (2, .ref x2), (3, .ref x3), (4, .ref x4)], [.int s0]) σ = some r := lm_rn_of h
/-- LatticeSuite$Slh.startSign, from 29 on -/
noncomputable def lm_q181_29 (sc : lm_H) (A : Nat → List Value → lm_M lm_R) (B : lm_F → lm_M lm_R) (x0 : Nat) (x1 : Nat) (x3 : Nat) (x4 : Nat) (x5 : Int32) (s0 : Nat) (s1 : Nat) (s2 : Nat) : lm_M lm_R :=
  lm_if .eq x5 0 (B (44, [(0, .ref x0), (1, .ref x1), (3, .ref x3), (4, .ref x4)], [.int (Int32.ofInt 0), .ref s0, .ref s1, .ref s2])) (lm_bind (lm_gI 4016 x0) fun v1 =>
  B (44, [(0, .ref x0), (1, .ref x1), (3, .ref x3), (4, .ref x4)], [.int ((Int32.ofInt 2) * v1), .ref s0, .ref s1, .ref s2]))
set_option maxRecDepth 100000 in
theorem lm_e181_29 {sc : lm_H} {d : Nat} {x0 : Nat} {x1 : Nat} {x3 : Nat} {x4 : Nat} {x5 : Int32} {s0 : Nat} {s1 : Nat} {s2 : Nat} {σ : lm_S} {r : Except Nat lm_R × lm_S} (h : lm_q181_29 sc (lm_cal sc d) (lm_rn sc d lm_m181.2.2.2.2.1 (lm_reg lm_m181.2.2.2.2.2)) x0 x1 x3 x4 x5 s0 s1 s2 σ = some r) : lm_rn sc d lm_m181.2.2.2.2.1 (lm_reg lm_m181.2.2.2.2.2) (29, [(0, .ref x0), (1, .ref x1), (3, .ref x3), (4, .ref x4), (5, .int x5)], [.ref s0, .ref s1, .ref s2]) σ = some r := lm_rn_of h
/-- LatticeSuite$Slh.startSign, from 44 on -/
noncomputable def lm_q181_44 (sc : lm_H) (A : Nat → List Value → lm_M lm_R) (B : lm_F → lm_M lm_R) (x0 : Nat) (x1 : Nat) (x3 : Nat) (x4 : Nat) (s0 : Int32) (s1 : Nat) (s2 : Nat) (s3 : Nat) : lm_M lm_R :=
  lm_bind (lm_sel [(10, 258)] (some (.ref s3))) fun y1 =>
  lm_bind (lm_asV (A y1 [.ref s3, .ref s2, .ref s1, .int s0, .ref x3, .ref x4])) fun _ =>
  lm_bind (lm_gI 4016 x0) fun v2 =>
  lm_bind (lm_sel [(10, 259)] (some (.ref x0))) fun y3 =>
  lm_bind (lm_asV (A y3 [.ref x0, .ref x4, .ref x1, .int ((Int32.ofInt 2) * v2), .ref x3])) fun _ =>
  lm_bind (lm_sel [(10, 192)] (some (.ref x0))) fun y4 =>
  lm_bind (lm_asV (A y4 [.ref x0, .ref x1])) fun _ =>
  lm_ret none
set_option maxRecDepth 100000 in
theorem lm_e181_44 {sc : lm_H} {d : Nat} {x0 : Nat} {x1 : Nat} {x3 : Nat} {x4 : Nat} {s0 : Int32} {s1 : Nat} {s2 : Nat} {s3 : Nat} {σ : lm_S} {r : Except Nat lm_R × lm_S} (h : lm_q181_44 sc (lm_cal sc d) (lm_rn sc d lm_m181.2.2.2.2.1 (lm_reg lm_m181.2.2.2.2.2)) x0 x1 x3 x4 s0 s1 s2 s3 σ = some r) : lm_rn sc d lm_m181.2.2.2.2.1 (lm_reg lm_m181.2.2.2.2.2) (44, [(0, .ref x0), (1, .ref x1), (3, .ref x3), (4, .ref x4)], [.int s0, .ref s1, .ref s2, .ref s3]) σ = some r := lm_rn_of h
/-- LatticeSuite$Slh.signForest, from 0 on -/
noncomputable def lm_q182_0 (sc : lm_H) (A : Nat → List Value → lm_M lm_R) (B : lm_F → lm_M lm_R) (x0 : Nat) (x1 : Nat) : lm_M lm_R :=
  lm_bind (lm_sel [(10, 260)] (some (.ref x0))) fun y1 =>
  lm_bind (lm_asI (A y1 [.ref x0])) fun v2 =>
  lm_bind (lm_gI 4016 x0) fun v3 =>
  lm_bind (lm_sel [(10, 261)] (some (.ref x0))) fun y4 =>
  lm_bind (lm_asL (A y4 [.ref x0])) fun v5 =>
  lm_bind (lm_sel [(10, 193)] (some (.ref x0))) fun y6 =>
  lm_bind (lm_asV (A y6 [.ref x0, .int (Int32.ofInt 0), .long v5])) fun _ =>
  B (22, [(0, .ref x0), (1, .ref x1), (2, .int v2), (3, .int v3), (4, .int (Int32.ofInt 0))], [])
set_option maxRecDepth 100000 in
theorem lm_e182_0 {sc : lm_H} {d : Nat} {x0 : Nat} {x1 : Nat} {σ : lm_S} {r : Except Nat lm_R × lm_S} (h : lm_q182_0 sc (lm_cal sc d) (lm_rn sc d lm_m182.2.2.2.2.1 (lm_reg lm_m182.2.2.2.2.2)) x0 x1  σ = some r) : lm_rn sc d lm_m182.2.2.2.2.1 (lm_reg lm_m182.2.2.2.2.2) (0, [(0, .ref x0), (1, .ref x1)], []) σ = some r := lm_rn_of h
/-- LatticeSuite$Slh.signForest, from 22 on -/
noncomputable def lm_q182_22 (sc : lm_H) (A : Nat → List Value → lm_M lm_R) (B : lm_F → lm_M lm_R) (x0 : Nat) (x1 : Nat) (x2 : Int32) (x3 : Int32) (x4 : Int32) : lm_M lm_R :=
  lm_bind (lm_gI 4032 x0) fun v1 =>
  lm_if .ge x4 v1 (lm_bind (lm_gI 4016 x0) fun v2 =>
  lm_bind (lm_sel [(10, 265)] (some (.ref x0))) fun y3 =>
  lm_bind (lm_asV (A y3 [.ref x0, .int x2, .ref x1, .int v2])) fun _ =>
  lm_ret none) (lm_bind (lm_sel [(10, 262)] (some (.ref x0))) fun y4 =>
  lm_bind (lm_asI (A y4 [.ref x0, .int x4])) fun v5 =>
  lm_bind (lm_sel [(10, 263)] (some (.ref x0))) fun y6 =>
  lm_bind (lm_asV (A y6 [.ref x0, .int (Int32.ofInt 6), .int x2, .int (Int32.ofInt 0), .int v5])) fun _ =>
  lm_bind (lm_gR 4054 x0) fun v7 =>
  lm_bind (lm_gI 4016 x0) fun v8 =>
  lm_bind (lm_sel [(10, 264)] (some (.ref x0))) fun y9 =>
  lm_bind (lm_asV (A y9 [.ref x0, .ref v7, .int (Int32.ofInt 0), .int v8, .ref x1, .int x3])) fun _ =>
  lm_bind (lm_gI 4016 x0) fun v10 =>
  B (74, [(0, .ref x0), (1, .ref x1), (2, .int x2), (3, .int (x3 + v10)), (4, .int x4), (5, .int v5), (6, .int (Int32.ofInt 0))], []))
set_option maxRecDepth 100000 in
theorem lm_e182_22 {sc : lm_H} {d : Nat} {x0 : Nat} {x1 : Nat} {x2 : Int32} {x3 : Int32} {x4 : Int32} {σ : lm_S} {r : Except Nat lm_R × lm_S} (h : lm_q182_22 sc (lm_cal sc d) (lm_rn sc d lm_m182.2.2.2.2.1 (lm_reg lm_m182.2.2.2.2.2)) x0 x1 x2 x3 x4  σ = some r) : lm_rn sc d lm_m182.2.2.2.2.1 (lm_reg lm_m182.2.2.2.2.2) (22, [(0, .ref x0), (1, .ref x1), (2, .int x2), (3, .int x3), (4, .int x4)], []) σ = some r := lm_rn_of h
/-- LatticeSuite$Slh.signForest, from 74 on -/
noncomputable def lm_q182_74 (sc : lm_H) (A : Nat → List Value → lm_M lm_R) (B : lm_F → lm_M lm_R) (x0 : Nat) (x1 : Nat) (x2 : Int32) (x3 : Int32) (x4 : Int32) (x5 : Int32) (x6 : Int32) : lm_M lm_R :=
  lm_bind (lm_gI 4028 x0) fun v1 =>
  lm_if .ge x6 v1 (B (22, [(0, .ref x0), (1, .ref x1), (2, .int x2), (3, .int x3), (4, .int (x4 + Int32.ofInt 1))], [])) (lm_bind (lm_sel [(10, 194)] (some (.ref x0))) fun y2 =>
  lm_bind (lm_asV (A y2 [.ref x0, .int (Int32.ofInt 3), .int x2, .int x6, .int ((x5 >>> (x6 &&& 31)) ^^^ (Int32.ofInt 1)), .ref x1, .int x3])) fun _ =>
  lm_bind (lm_gI 4016 x0) fun v3 =>
  B (74, [(0, .ref x0), (1, .ref x1), (2, .int x2), (3, .int (x3 + v3)), (4, .int x4), (5, .int x5), (6, .int (x6 + Int32.ofInt 1))], []))
set_option maxRecDepth 100000 in
theorem lm_e182_74 {sc : lm_H} {d : Nat} {x0 : Nat} {x1 : Nat} {x2 : Int32} {x3 : Int32} {x4 : Int32} {x5 : Int32} {x6 : Int32} {σ : lm_S} {r : Except Nat lm_R × lm_S} (h : lm_q182_74 sc (lm_cal sc d) (lm_rn sc d lm_m182.2.2.2.2.1 (lm_reg lm_m182.2.2.2.2.2)) x0 x1 x2 x3 x4 x5 x6  σ = some r) : lm_rn sc d lm_m182.2.2.2.2.1 (lm_reg lm_m182.2.2.2.2.2) (74, [(0, .ref x0), (1, .ref x1), (2, .int x2), (3, .int x3), (4, .int x4), (5, .int x5), (6, .int x6)], []) σ = some r := lm_rn_of h
/-- LatticeSuite$Slh.signTrees, from 0 on -/
noncomputable def lm_q183_0 (sc : lm_H) (A : Nat → List Value → lm_M lm_R) (B : lm_F → lm_M lm_R) (x0 : Nat) (x1 : Nat) : lm_M lm_R :=
  lm_bind (lm_sel [(10, 261)] (some (.ref x0))) fun y1 =>
  lm_bind (lm_asL (A y1 [.ref x0])) fun v2 =>
  lm_bind (lm_sel [(10, 260)] (some (.ref x0))) fun y3 =>
  lm_bind (lm_asI (A y3 [.ref x0])) fun v4 =>
  lm_bind (lm_gI 4016 x0) fun v5 =>
  lm_bind (lm_sel [(10, 266)] (some (.ref x0))) fun y6 =>
  lm_bind (lm_asI (A y6 [.ref x0])) fun v7 =>
  B (25, [(0, .ref x0), (1, .ref x1), (2, .long v2), (4, .int v4), (5, .int (v5 + v7)), (6, .int (Int32.ofInt 0))], [])
set_option maxRecDepth 100000 in
theorem lm_e183_0 {sc : lm_H} {d : Nat} {x0 : Nat} {x1 : Nat} {σ : lm_S} {r : Except Nat lm_R × lm_S} (h : lm_q183_0 sc (lm_cal sc d) (lm_rn sc d lm_m183.2.2.2.2.1 (lm_reg lm_m183.2.2.2.2.2)) x0 x1  σ = some r) : lm_rn sc d lm_m183.2.2.2.2.1 (lm_reg lm_m183.2.2.2.2.2) (0, [(0, .ref x0), (1, .ref x1)], []) σ = some r := lm_rn_of h
/-- LatticeSuite$Slh.signTrees, from 25 on -/
noncomputable def lm_q183_25 (sc : lm_H) (A : Nat → List Value → lm_M lm_R) (B : lm_F → lm_M lm_R) (x0 : Nat) (x1 : Nat) (x2 : Int64) (x4 : Int32) (x5 : Int32) (x6 : Int32) : lm_M lm_R :=
  lm_bind (lm_gI 4020 x0) fun v1 =>
  lm_if .ge x6 v1 (lm_ret none) (lm_bind (lm_sel [(10, 193)] (some (.ref x0))) fun y2 =>
  lm_bind (lm_asV (A y2 [.ref x0, .int x6, .long x2])) fun _ =>
  lm_bind (lm_sel [(10, 267)] (some (.ref x0))) fun y3 =>
  lm_bind (lm_asV (A y3 [.ref x0, .int x4, .ref x1, .int x5])) fun _ =>
  B (53, [(0, .ref x0), (1, .ref x1), (2, .long x2), (4, .int x4), (5, .int x5), (6, .int x6), (7, .int (Int32.ofInt 0))], []))
set_option maxRecDepth 100000 in
theorem lm_e183_25 {sc : lm_H} {d : Nat} {x0 : Nat} {x1 : Nat} {x2 : Int64} {x4 : Int32} {x5 : Int32} {x6 : Int32} {σ : lm_S} {r : Except Nat lm_R × lm_S} (h : lm_q183_25 sc (lm_cal sc d) (lm_rn sc d lm_m183.2.2.2.2.1 (lm_reg lm_m183.2.2.2.2.2)) x0 x1 x2 x4 x5 x6  σ = some r) : lm_rn sc d lm_m183.2.2.2.2.1 (lm_reg lm_m183.2.2.2.2.2) (25, [(0, .ref x0), (1, .ref x1), (2, .long x2), (4, .int x4), (5, .int x5), (6, .int x6)], []) σ = some r := lm_rn_of h
/-- LatticeSuite$Slh.signTrees, from 53 on -/
noncomputable def lm_q183_53 (sc : lm_H) (A : Nat → List Value → lm_M lm_R) (B : lm_F → lm_M lm_R) (x0 : Nat) (x1 : Nat) (x2 : Int64) (x4 : Int32) (x5 : Int32) (x6 : Int32) (x7 : Int32) : lm_M lm_R :=
  lm_bind (lm_gI 4024 x0) fun v1 =>
  lm_if .ge x7 v1 (lm_bind (lm_sel [(10, 268)] (some (.ref x0))) fun y2 =>
  lm_bind (lm_asV (A y2 [.ref x0, .int x4, .ref x1, .int x5])) fun _ =>
  lm_bind (lm_gI 4024 x0) fun v3 =>
  lm_bind (lm_gI 4024 x0) fun v4 =>
  lm_bind (lm_sel [(10, 269)] (some (.ref x0))) fun y5 =>
  lm_bind (lm_asI (A y5 [.ref x0])) fun v6 =>
  B (25, [(0, .ref x0), (1, .ref x1), (2, .long (lm_uL x2 v4)), (4, .int ((Int64.toInt32 x2) &&& (((Int32.ofInt 1) <<< (v3 &&& 31)) - (Int32.ofInt 1)))), (5, .int (x5 + v6)), (6, .int (x6 + Int32.ofInt 1))], [])) (lm_bind (lm_gI 4036 x0) fun v7 =>
  lm_bind (lm_gI 4016 x0) fun v8 =>
  lm_bind (lm_sel [(10, 194)] (some (.ref x0))) fun y9 =>
  lm_bind (lm_asV (A y9 [.ref x0, .int (Int32.ofInt 2), .int (Int32.ofInt 0), .int x7, .int ((x4 >>> (x7 &&& 31)) ^^^ (Int32.ofInt 1)), .ref x1, .int (x5 + ((v7 + x7) * v8))])) fun _ =>
  B (53, [(0, .ref x0), (1, .ref x1), (2, .long x2), (4, .int x4), (5, .int x5), (6, .int x6), (7, .int (x7 + Int32.ofInt 1))], []))
set_option maxRecDepth 100000 in
theorem lm_e183_53 {sc : lm_H} {d : Nat} {x0 : Nat} {x1 : Nat} {x2 : Int64} {x4 : Int32} {x5 : Int32} {x6 : Int32} {x7 : Int32} {σ : lm_S} {r : Except Nat lm_R × lm_S} (h : lm_q183_53 sc (lm_cal sc d) (lm_rn sc d lm_m183.2.2.2.2.1 (lm_reg lm_m183.2.2.2.2.2)) x0 x1 x2 x4 x5 x6 x7  σ = some r) : lm_rn sc d lm_m183.2.2.2.2.1 (lm_reg lm_m183.2.2.2.2.2) (53, [(0, .ref x0), (1, .ref x1), (2, .long x2), (4, .int x4), (5, .int x5), (6, .int x6), (7, .int x7)], []) σ = some r := lm_rn_of h
/-- LatticeSuite$Slh.packetSize, from 0 on -/
noncomputable def lm_q184_0 (sc : lm_H) (A : Nat → List Value → lm_M lm_R) (B : lm_F → lm_M lm_R) (x0 : Nat) : lm_M lm_R :=
  lm_bind (lm_gI 4016 x0) fun v1 =>
  lm_bind (lm_sel [(10, 266)] (some (.ref x0))) fun y2 =>
  lm_bind (lm_asI (A y2 [.ref x0])) fun v3 =>
  lm_bind (lm_gI 4020 x0) fun v4 =>
  lm_bind (lm_sel [(10, 269)] (some (.ref x0))) fun y5 =>
  lm_bind (lm_asI (A y5 [.ref x0])) fun v6 =>
  lm_ret (some (.int ((v1 + v3) + (v4 * v6))))
set_option maxRecDepth 100000 in
theorem lm_e184_0 {sc : lm_H} {d : Nat} {x0 : Nat} {σ : lm_S} {r : Except Nat lm_R × lm_S} (h : lm_q184_0 sc (lm_cal sc d) (lm_rn sc d lm_m184.2.2.2.2.1 (lm_reg lm_m184.2.2.2.2.2)) x0  σ = some r) : lm_rn sc d lm_m184.2.2.2.2.1 (lm_reg lm_m184.2.2.2.2.2) (0, [(0, .ref x0)], []) σ = some r := lm_rn_of h
/-- LatticeSuiteModel.numberOf, from 0 on -/
noncomputable def lm_q185_0 (sc : lm_H) (A : Nat → List Value → lm_M lm_R) (B : lm_F → lm_M lm_R) (x0 : Nat) (x1 : Int32) : lm_M lm_R :=
  lm_bind (lm_gI 4684 x0) fun v1 =>
  B (9, [(0, .ref x0), (1, .int x1), (2, .int (Int32.ofInt 0)), (3, .int (x1 * v1))], [])
set_option maxRecDepth 100000 in
theorem lm_e185_0 {sc : lm_H} {d : Nat} {x0 : Nat} {x1 : Int32} {σ : lm_S} {r : Except Nat lm_R × lm_S} (h : lm_q185_0 sc (lm_cal sc d) (lm_rn sc d lm_m185.2.2.2.2.1 (lm_reg lm_m185.2.2.2.2.2)) x0 x1  σ = some r) : lm_rn sc d lm_m185.2.2.2.2.1 (lm_reg lm_m185.2.2.2.2.2) (0, [(0, .ref x0), (1, .int x1)], []) σ = some r := lm_rn_of h
/-- LatticeSuiteModel.numberOf, from 9 on -/
noncomputable def lm_q185_9 (sc : lm_H) (A : Nat → List Value → lm_M lm_R) (B : lm_F → lm_M lm_R) (x0 : Nat) (x1 : Int32) (x2 : Int32) (x3 : Int32) : lm_M lm_R :=
  lm_bind (lm_gI 4684 x0) fun v1 =>
  lm_bind (lm_gI 4684 x0) fun v2 =>
  lm_if .ge x3 ((x1 * v1) + v2) (lm_ret (some (.int x2))) (lm_bind (lm_gR 4646 x0) fun v3 =>
  lm_when (¬ (Int32.ofInt 8) = 0) inferInstance (lm_bind (lm_bald sc v3 (x3 / (Int32.ofInt 8))) fun v4 =>
  lm_when (¬ (Int32.ofInt 8) = 0) inferInstance (B (9, [(0, .ref x0), (1, .int x1), (2, .int ((x2 <<< ((Int32.ofInt 1) &&& 31)) ||| ((v4 >>> (((Int32.ofInt 7) - (lm_rem x3 (Int32.ofInt 8))) &&& 31)) &&& (Int32.ofInt 1)))), (3, .int (x3 + Int32.ofInt 1))], []))))
set_option maxRecDepth 100000 in
theorem lm_e185_9 {sc : lm_H} {d : Nat} {x0 : Nat} {x1 : Int32} {x2 : Int32} {x3 : Int32} {σ : lm_S} {r : Except Nat lm_R × lm_S} (h : lm_q185_9 sc (lm_cal sc d) (lm_rn sc d lm_m185.2.2.2.2.1 (lm_reg lm_m185.2.2.2.2.2)) x0 x1 x2 x3  σ = some r) : lm_rn sc d lm_m185.2.2.2.2.1 (lm_reg lm_m185.2.2.2.2.2) (9, [(0, .ref x0), (1, .int x1), (2, .int x2), (3, .int x3)], []) σ = some r := lm_rn_of h
/-- LatticeSuiteModel.pseudo, from 0 on -/
noncomputable def lm_q186_0 (sc : lm_H) (A : Nat → List Value → lm_M lm_R) (B : lm_F → lm_M lm_R) (x0 : Nat) (x1 : Nat) (x2 : Int32) : lm_M lm_R :=
  lm_bind (lm_gR 4658 x0) fun v1 =>
  lm_bind (lm_gI 4668 x0) fun v2 =>
  lm_bind (lm_sel [(11, 180)] (some (.ref x0))) fun y3 =>
  lm_bind (lm_asV (A y3 [.ref x0, .ref v1, .int (Int32.ofInt 0), .int v2, .ref x1, .int x2])) fun _ =>
  lm_ret none
set_option maxRecDepth 100000 in
theorem lm_e186_0 {sc : lm_H} {d : Nat} {x0 : Nat} {x1 : Nat} {x2 : Int32} {σ : lm_S} {r : Except Nat lm_R × lm_S} (h : lm_q186_0 sc (lm_cal sc d) (lm_rn sc d lm_m186.2.2.2.2.1 (lm_reg lm_m186.2.2.2.2.2)) x0 x1 x2  σ = some r) : lm_rn sc d lm_m186.2.2.2.2.1 (lm_reg lm_m186.2.2.2.2.2) (0, [(0, .ref x0), (1, .ref x1), (2, .int x2)], []) σ = some r := lm_rn_of h
/-- LatticeSuiteModel.forestNode, from 0 on -/
noncomputable def lm_q187_0 (sc : lm_H) (A : Nat → List Value → lm_M lm_R) (B : lm_F → lm_M lm_R) (x0 : Nat) (x1 : Int32) (x2 : Int32) (x3 : Int32) (x4 : Nat) (x5 : Int32) : lm_M lm_R :=
  lm_if .ne x2 0 (lm_bind (lm_gR 4622 x0) fun v1 =>
  lm_bind (lm_aaR sc v1 x2) fun v2 =>
  lm_bind (lm_sel [(11, 187)] (some (.ref x0))) fun y3 =>
  lm_bind (lm_asV (A y3 [.ref x0, .int x1, .int (x2 - (Int32.ofInt 1)), .int ((Int32.ofInt 2) * x3), .ref v2, .int (Int32.ofInt 0)])) fun _ =>
  lm_bind (lm_gI 4668 x0) fun v4 =>
  lm_bind (lm_sel [(11, 187)] (some (.ref x0))) fun y5 =>
  lm_bind (lm_asV (A y5 [.ref x0, .int x1, .int (x2 - (Int32.ofInt 1)), .int (((Int32.ofInt 2) * x3) + (Int32.ofInt 1)), .ref v2, .int v4])) fun _ =>
  lm_bind (lm_sel [(11, 179)] (some (.ref x0))) fun y6 =>
  lm_bind (lm_asV (A y6 [.ref x0, .int (Int32.ofInt 3), .int x1, .int x2, .int x3])) fun _ =>
  lm_bind (lm_gI 4668 x0) fun v7 =>
  lm_bind (lm_sel [(11, 180)] (some (.ref x0))) fun y8 =>
  lm_bind (lm_asV (A y8 [.ref x0, .ref v2, .int (Int32.ofInt 0), .int ((Int32.ofInt 2) * v7), .ref x4, .int x5])) fun _ =>
  lm_ret none) (lm_bind (lm_sel [(11, 179)] (some (.ref x0))) fun y9 =>
  lm_bind (lm_asV (A y9 [.ref x0, .int (Int32.ofInt 6), .int x1, .int (Int32.ofInt 0), .int x3])) fun _ =>
  lm_bind (lm_gR 4634 x0) fun v10 =>
  lm_bind (lm_sel [(11, 186)] (some (.ref x0))) fun y11 =>
  lm_bind (lm_asV (A y11 [.ref x0, .ref v10, .int (Int32.ofInt 0)])) fun _ =>
  lm_bind (lm_sel [(11, 179)] (some (.ref x0))) fun y12 =>
  lm_bind (lm_asV (A y12 [.ref x0, .int (Int32.ofInt 3), .int x1, .int (Int32.ofInt 0), .int x3])) fun _ =>
  lm_bind (lm_gR 4634 x0) fun v13 =>
  lm_bind (lm_gI 4668 x0) fun v14 =>
  lm_bind (lm_sel [(11, 180)] (some (.ref x0))) fun y15 =>
  lm_bind (lm_asV (A y15 [.ref x0, .ref v13, .int (Int32.ofInt 0), .int v14, .ref x4, .int x5])) fun _ =>
  lm_ret none)
set_option maxRecDepth 100000 in
theorem lm_e187_0 {sc : lm_H} {d : Nat} {x0 : Nat} {x1 : Int32} {x2 : Int32} {x3 : Int32} {x4 : Nat} {x5 : Int32} {σ : lm_S} {r : Except Nat lm_R × lm_S} (h : lm_q187_0 sc (lm_cal sc d) (lm_rn sc d lm_m187.2.2.2.2.1 (lm_reg lm_m187.2.2.2.2.2)) x0 x1 x2 x3 x4 x5  σ = some r) : lm_rn sc d lm_m187.2.2.2.2.1 (lm_reg lm_m187.2.2.2.2.2) (0, [(0, .ref x0), (1, .int x1), (2, .int x2), (3, .int x3), (4, .ref x4), (5, .int x5)], []) σ = some r := lm_rn_of h
/-- LatticeSuiteModel.climb, from 0 on -/
noncomputable def lm_q188_0 (sc : lm_H) (A : Nat → List Value → lm_M lm_R) (B : lm_F → lm_M lm_R) (x0 : Nat) (x1 : Int32) (x2 : Int32) (x3 : Int32) (x4 : Int32) (x5 : Nat) (x6 : Int32) : lm_M lm_R :=
  B (3, [(0, .ref x0), (1, .int x1), (2, .int x2), (3, .int x3), (4, .int x4), (5, .ref x5), (6, .int x6), (7, .int (Int32.ofInt 0))], [])
set_option maxRecDepth 100000 in
theorem lm_e188_0 {sc : lm_H} {d : Nat} {x0 : Nat} {x1 : Int32} {x2 : Int32} {x3 : Int32} {x4 : Int32} {x5 : Nat} {x6 : Int32} {σ : lm_S} {r : Except Nat lm_R × lm_S} (h : lm_q188_0 sc (lm_cal sc d) (lm_rn sc d lm_m188.2.2.2.2.1 (lm_reg lm_m188.2.2.2.2.2)) x0 x1 x2 x3 x4 x5 x6  σ = some r) : lm_rn sc d lm_m188.2.2.2.2.1 (lm_reg lm_m188.2.2.2.2.2) (0, [(0, .ref x0), (1, .int x1), (2, .int x2), (3, .int x3), (4, .int x4), (5, .ref x5), (6, .int x6)], []) σ = some r := lm_rn_of h
/-- LatticeSuiteModel.climb, from 3 on -/
noncomputable def lm_q188_3 (sc : lm_H) (A : Nat → List Value → lm_M lm_R) (B : lm_F → lm_M lm_R) (x0 : Nat) (x1 : Int32) (x2 : Int32) (x3 : Int32) (x4 : Int32) (x5 : Nat) (x6 : Int32) (x7 : Int32) : lm_M lm_R :=
  lm_if .ge x7 x4 (lm_ret none) (lm_when (¬ (Int32.ofInt 2) = 0) inferInstance (lm_if .ne (lm_rem (x3 >>> (x7 &&& 31)) (Int32.ofInt 2)) 0 (B (24, [(0, .ref x0), (1, .int x1), (2, .int x2), (3, .int x3), (4, .int x4), (5, .ref x5), (6, .int x6), (7, .int x7)], [.int (Int32.ofInt 0)])) (B (24, [(0, .ref x0), (1, .int x1), (2, .int x2), (3, .int x3), (4, .int x4), (5, .ref x5), (6, .int x6), (7, .int x7)], [.int (Int32.ofInt 1)]))))
set_option maxRecDepth 100000 in
theorem lm_e188_3 {sc : lm_H} {d : Nat} {x0 : Nat} {x1 : Int32} {x2 : Int32} {x3 : Int32} {x4 : Int32} {x5 : Nat} {x6 : Int32} {x7 : Int32} {σ : lm_S} {r : Except Nat lm_R × lm_S} (h : lm_q188_3 sc (lm_cal sc d) (lm_rn sc d lm_m188.2.2.2.2.1 (lm_reg lm_m188.2.2.2.2.2)) x0 x1 x2 x3 x4 x5 x6 x7  σ = some r) : lm_rn sc d lm_m188.2.2.2.2.1 (lm_reg lm_m188.2.2.2.2.2) (3, [(0, .ref x0), (1, .int x1), (2, .int x2), (3, .int x3), (4, .int x4), (5, .ref x5), (6, .int x6), (7, .int x7)], []) σ = some r := lm_rn_of h
/-- LatticeSuiteModel.climb, from 24 on -/
noncomputable def lm_q188_24 (sc : lm_H) (A : Nat → List Value → lm_M lm_R) (B : lm_F → lm_M lm_R) (x0 : Nat) (x1 : Int32) (x2 : Int32) (x3 : Int32) (x4 : Int32) (x5 : Nat) (x6 : Int32) (x7 : Int32) (s0 : Int32) : lm_M lm_R :=
  lm_bind (lm_gR 4638 x0) fun v1 =>
  lm_bind (lm_gR 4642 x0) fun v2 =>
  lm_if .eq s0 0 (lm_bind (lm_gI 4668 x0) fun v3 =>
  B (48, [(0, .ref x0), (1, .int x1), (2, .int x2), (3, .int x3), (4, .int x4), (5, .ref x5), (6, .int x6), (7, .int x7), (8, .int s0)], [.int v3, .ref v2, .int (Int32.ofInt 0), .ref v1])) (B (48, [(0, .ref x0), (1, .int x1), (2, .int x2), (3, .int x3), (4, .int x4), (5, .ref x5), (6, .int x6), (7, .int x7), (8, .int s0)], [.int (Int32.ofInt 0), .ref v2, .int (Int32.ofInt 0), .ref v1]))
set_option maxRecDepth 100000 in
theorem lm_e188_24 {sc : lm_H} {d : Nat} {x0 : Nat} {x1 : Int32} {x2 : Int32} {x3 : Int32} {x4 : Int32} {x5 : Nat} {x6 : Int32} {x7 : Int32} {s0 : Int32} {σ : lm_S} {r : Except Nat lm_R × lm_S} (h : lm_q188_24 sc (lm_cal sc d) (lm_rn sc d lm_m188.2.2.2.2.1 (lm_reg lm_m188.2.2.2.2.2)) x0 x1 x2 x3 x4 x5 x6 x7 s0 σ = some r) : lm_rn sc d lm_m188.2.2.2.2.1 (lm_reg lm_m188.2.2.2.2.2) (24, [(0, .ref x0), (1, .int x1), (2, .int x2), (3, .int x3), (4, .int x4), (5, .ref x5), (6, .int x6), (7, .int x7)], [.int s0]) σ = some r := lm_rn_of h
/-- LatticeSuiteModel.climb, from 48 on -/
noncomputable def lm_q188_48 (sc : lm_H) (A : Nat → List Value → lm_M lm_R) (B : lm_F → lm_M lm_R) (x0 : Nat) (x1 : Int32) (x2 : Int32) (x3 : Int32) (x4 : Int32) (x5 : Nat) (x6 : Int32) (x7 : Int32) (x8 : Int32) (s0 : Int32) (s1 : Nat) (s2 : Int32) (s3 : Nat) : lm_M lm_R :=
  lm_bind (lm_gI 4668 x0) fun v1 =>
  lm_bind (lm_asV (A 75 [.ref s3, .int s2, .ref s1, .int s0, .int v1])) fun _ =>
  lm_bind (lm_gI 4668 x0) fun v2 =>
  lm_bind (lm_gR 4642 x0) fun v3 =>
  lm_if .eq x8 0 (B (84, [(0, .ref x0), (1, .int x1), (2, .int x2), (3, .int x3), (4, .int x4), (5, .ref x5), (6, .int x6), (7, .int x7)], [.int (Int32.ofInt 0), .ref v3, .int (x6 + (x7 * v2)), .ref x5])) (lm_bind (lm_gI 4668 x0) fun v4 =>
  B (84, [(0, .ref x0), (1, .int x1), (2, .int x2), (3, .int x3), (4, .int x4), (5, .ref x5), (6, .int x6), (7, .int x7)], [.int v4, .ref v3, .int (x6 + (x7 * v2)), .ref x5]))
set_option maxRecDepth 100000 in
theorem lm_e188_48 {sc : lm_H} {d : Nat} {x0 : Nat} {x1 : Int32} {x2 : Int32} {x3 : Int32} {x4 : Int32} {x5 : Nat} {x6 : Int32} {x7 : Int32} {x8 : Int32} {s0 : Int32} {s1 : Nat} {s2 : Int32} {s3 : Nat} {σ : lm_S} {r : Except Nat lm_R × lm_S} (h : lm_q188_48 sc (lm_cal sc d) (lm_rn sc d lm_m188.2.2.2.2.1 (lm_reg lm_m188.2.2.2.2.2)) x0 x1 x2 x3 x4 x5 x6 x7 x8 s0 s1 s2 s3 σ = some r) : lm_rn sc d lm_m188.2.2.2.2.1 (lm_reg lm_m188.2.2.2.2.2) (48, [(0, .ref x0), (1, .int x1), (2, .int x2), (3, .int x3), (4, .int x4), (5, .ref x5), (6, .int x6), (7, .int x7), (8, .int x8)], [.int s0, .ref s1, .int s2, .ref s3]) σ = some r := lm_rn_of h
/-- LatticeSuiteModel.climb, from 84 on -/
noncomputable def lm_q188_84 (sc : lm_H) (A : Nat → List Value → lm_M lm_R) (B : lm_F → lm_M lm_R) (x0 : Nat) (x1 : Int32) (x2 : Int32) (x3 : Int32) (x4 : Int32) (x5 : Nat) (x6 : Int32) (x7 : Int32) (s0 : Int32) (s1 : Nat) (s2 : Int32) (s3 : Nat) : lm_M lm_R :=
  lm_bind (lm_gI 4668 x0) fun v1 =>
  lm_bind (lm_asV (A 75 [.ref s3, .int s2, .ref s1, .int s0, .int v1])) fun _ =>
  lm_bind (lm_sel [(11, 179)] (some (.ref x0))) fun y2 =>
  lm_bind (lm_asV (A y2 [.ref x0, .int x1, .int x2, .int (x7 + (Int32.ofInt 1)), .int (x3 >>> ((x7 + (Int32.ofInt 1)) &&& 31))])) fun _ =>
  lm_bind (lm_gR 4642 x0) fun v3 =>
  lm_bind (lm_gI 4668 x0) fun v4 =>
  lm_bind (lm_gR 4638 x0) fun v5 =>
  lm_bind (lm_sel [(11, 180)] (some (.ref x0))) fun y6 =>
  lm_bind (lm_asV (A y6 [.ref x0, .ref v3, .int (Int32.ofInt 0), .int ((Int32.ofInt 2) * v4), .ref v5, .int (Int32.ofInt 0)])) fun _ =>
  B (3, [(0, .ref x0), (1, .int x1), (2, .int x2), (3, .int x3), (4, .int x4), (5, .ref x5), (6, .int x6), (7, .int (x7 + Int32.ofInt 1))], [])
set_option maxRecDepth 100000 in
theorem lm_e188_84 {sc : lm_H} {d : Nat} {x0 : Nat} {x1 : Int32} {x2 : Int32} {x3 : Int32} {x4 : Int32} {x5 : Nat} {x6 : Int32} {x7 : Int32} {s0 : Int32} {s1 : Nat} {s2 : Int32} {s3 : Nat} {σ : lm_S} {r : Except Nat lm_R × lm_S} (h : lm_q188_84 sc (lm_cal sc d) (lm_rn sc d lm_m188.2.2.2.2.1 (lm_reg lm_m188.2.2.2.2.2)) x0 x1 x2 x3 x4 x5 x6 x7 s0 s1 s2 s3 σ = some r) : lm_rn sc d lm_m188.2.2.2.2.1 (lm_reg lm_m188.2.2.2.2.2) (84, [(0, .ref x0), (1, .int x1), (2, .int x2), (3, .int x3), (4, .int x4), (5, .ref x5), (6, .int x6), (7, .int x7)], [.int s0, .ref s1, .int s2, .ref s3]) σ = some r := lm_rn_of h
/-- LatticeSuiteModel.digitsOf, from 0 on -/
noncomputable def lm_q189_0 (sc : lm_H) (A : Nat → List Value → lm_M lm_R) (B : lm_F → lm_M lm_R) (x0 : Nat) (x1 : Nat) (x2 : Int32) : lm_M lm_R :=
  B (5, [(0, .ref x0), (1, .ref x1), (2, .int x2), (3, .int (Int32.ofInt 0)), (4, .int (Int32.ofInt 0))], [])
set_option maxRecDepth 100000 in
theorem lm_e189_0 {sc : lm_H} {d : Nat} {x0 : Nat} {x1 : Nat} {x2 : Int32} {σ : lm_S} {r : Except Nat lm_R × lm_S} (h : lm_q189_0 sc (lm_cal sc d) (lm_rn sc d lm_m189.2.2.2.2.1 (lm_reg lm_m189.2.2.2.2.2)) x0 x1 x2  σ = some r) : lm_rn sc d lm_m189.2.2.2.2.1 (lm_reg lm_m189.2.2.2.2.2) (0, [(0, .ref x0), (1, .ref x1), (2, .int x2)], []) σ = some r := lm_rn_of h
/-- LatticeSuiteModel.digitsOf, from 5 on -/
noncomputable def lm_q189_5 (sc : lm_H) (A : Nat → List Value → lm_M lm_R) (B : lm_F → lm_M lm_R) (x0 : Nat) (x1 : Nat) (x2 : Int32) (x3 : Int32) (x4 : Int32) : lm_M lm_R :=
  lm_bind (lm_gI 4668 x0) fun v1 =>
  lm_if .ge x4 ((Int32.ofInt 2) * v1) (lm_bind (lm_gR 4650 x0) fun v2 =>
  lm_bind (lm_gI 4668 x0) fun v3 =>
  lm_bind (lm_iast v2 ((Int32.ofInt 2) * v3) (((x3 * (Int32.ofInt 16)) >>> ((Int32.ofInt 12) &&& 31)) &&& (Int32.ofInt 15))) fun _ =>
  lm_bind (lm_gR 4650 x0) fun v4 =>
  lm_bind (lm_gI 4668 x0) fun v5 =>
  lm_bind (lm_iast v4 (((Int32.ofInt 2) * v5) + (Int32.ofInt 1)) (((x3 * (Int32.ofInt 16)) >>> ((Int32.ofInt 8) &&& 31)) &&& (Int32.ofInt 15))) fun _ =>
  lm_bind (lm_gR 4650 x0) fun v6 =>
  lm_bind (lm_gI 4668 x0) fun v7 =>
  lm_bind (lm_iast v6 (((Int32.ofInt 2) * v7) + (Int32.ofInt 2)) (((x3 * (Int32.ofInt 16)) >>> ((Int32.ofInt 4) &&& 31)) &&& (Int32.ofInt 15))) fun _ =>
  lm_ret none) (lm_bind (lm_gR 4650 x0) fun v8 =>
  lm_when (¬ (Int32.ofInt 2) = 0) inferInstance (lm_if .ne (lm_rem x4 (Int32.ofInt 2)) 0 (lm_when (¬ (Int32.ofInt 2) = 0) inferInstance (lm_bind (lm_bald sc x1 (x2 + (x4 / (Int32.ofInt 2)))) fun v9 =>
  B (56, [(0, .ref x0), (1, .ref x1), (2, .int x2), (3, .int x3), (4, .int x4)], [.int (v9 &&& (Int32.ofInt 15)), .int x4, .ref v8]))) (lm_when (¬ (Int32.ofInt 2) = 0) inferInstance (lm_bind (lm_bald sc x1 (x2 + (x4 / (Int32.ofInt 2)))) fun v10 =>
  B (56, [(0, .ref x0), (1, .ref x1), (2, .int x2), (3, .int x3), (4, .int x4)], [.int ((v10 >>> ((Int32.ofInt 4) &&& 31)) &&& (Int32.ofInt 15)), .int x4, .ref v8])))))
set_option maxRecDepth 100000 in
theorem lm_e189_5 {sc : lm_H} {d : Nat} {x0 : Nat} {x1 : Nat} {x2 : Int32} {x3 : Int32} {x4 : Int32} {σ : lm_S} {r : Except Nat lm_R × lm_S} (h : lm_q189_5 sc (lm_cal sc d) (lm_rn sc d lm_m189.2.2.2.2.1 (lm_reg lm_m189.2.2.2.2.2)) x0 x1 x2 x3 x4  σ = some r) : lm_rn sc d lm_m189.2.2.2.2.1 (lm_reg lm_m189.2.2.2.2.2) (5, [(0, .ref x0), (1, .ref x1), (2, .int x2), (3, .int x3), (4, .int x4)], []) σ = some r := lm_rn_of h
/-- LatticeSuiteModel.digitsOf, from 56 on -/
noncomputable def lm_q189_56 (sc : lm_H) (A : Nat → List Value → lm_M lm_R) (B : lm_F → lm_M lm_R) (x0 : Nat) (x1 : Nat) (x2 : Int32) (x3 : Int32) (x4 : Int32) (s0 : Int32) (s1 : Int32) (s2 : Nat) : lm_M lm_R :=
  lm_bind (lm_iast s2 s1 s0) fun _ =>
  lm_bind (lm_gR 4650 x0) fun v1 =>
  lm_bind (lm_iald sc v1 x4) fun v2 =>
  B (5, [(0, .ref x0), (1, .ref x1), (2, .int x2), (3, .int (x3 + ((Int32.ofInt 15) - v2))), (4, .int (x4 + Int32.ofInt 1))], [])
set_option maxRecDepth 100000 in
theorem lm_e189_56 {sc : lm_H} {d : Nat} {x0 : Nat} {x1 : Nat} {x2 : Int32} {x3 : Int32} {x4 : Int32} {s0 : Int32} {s1 : Int32} {s2 : Nat} {σ : lm_S} {r : Except Nat lm_R × lm_S} (h : lm_q189_56 sc (lm_cal sc d) (lm_rn sc d lm_m189.2.2.2.2.1 (lm_reg lm_m189.2.2.2.2.2)) x0 x1 x2 x3 x4 s0 s1 s2 σ = some r) : lm_rn sc d lm_m189.2.2.2.2.1 (lm_reg lm_m189.2.2.2.2.2) (56, [(0, .ref x0), (1, .ref x1), (2, .int x2), (3, .int x3), (4, .int x4)], [.int s0, .int s1, .ref s2]) σ = some r := lm_rn_of h
/-- LatticeSuiteModel.chain, from 0 on -/
noncomputable def lm_q190_0 (sc : lm_H) (A : Nat → List Value → lm_M lm_R) (B : lm_F → lm_M lm_R) (x0 : Nat) (x1 : Int32) (x2 : Int32) (x3 : Int32) (x4 : Int32) (x5 : Nat) (x6 : Int32) : lm_M lm_R :=
  B (3, [(0, .ref x0), (1, .int x1), (2, .int x2), (3, .int x3), (4, .int x4), (5, .ref x5), (6, .int x6), (7, .int x3)], [])
set_option maxRecDepth 100000 in
theorem lm_e190_0 {sc : lm_H} {d : Nat} {x0 : Nat} {x1 : Int32} {x2 : Int32} {x3 : Int32} {x4 : Int32} {x5 : Nat} {x6 : Int32} {σ : lm_S} {r : Except Nat lm_R × lm_S} (h : lm_q190_0 sc (lm_cal sc d) (lm_rn sc d lm_m190.2.2.2.2.1 (lm_reg lm_m190.2.2.2.2.2)) x0 x1 x2 x3 x4 x5 x6  σ = some r) : lm_rn sc d lm_m190.2.2.2.2.1 (lm_reg lm_m190.2.2.2.2.2) (0, [(0, .ref x0), (1, .int x1), (2, .int x2), (3, .int x3), (4, .int x4), (5, .ref x5), (6, .int x6)], []) σ = some r := lm_rn_of h
/-- LatticeSuiteModel.chain, from 3 on -/
noncomputable def lm_q190_3 (sc : lm_H) (A : Nat → List Value → lm_M lm_R) (B : lm_F → lm_M lm_R) (x0 : Nat) (x1 : Int32) (x2 : Int32) (x3 : Int32) (x4 : Int32) (x5 : Nat) (x6 : Int32) (x7 : Int32) : lm_M lm_R :=
  lm_if .ge x7 (x3 + x4) (lm_ret none) (lm_bind (lm_sel [(11, 179)] (some (.ref x0))) fun y1 =>
  lm_bind (lm_asV (A y1 [.ref x0, .int (Int32.ofInt 0), .int x1, .int x2, .int x7])) fun _ =>
  lm_bind (lm_gI 4668 x0) fun v2 =>
  lm_bind (lm_sel [(11, 180)] (some (.ref x0))) fun y3 =>
  lm_bind (lm_asV (A y3 [.ref x0, .ref x5, .int x6, .int v2, .ref x5, .int x6])) fun _ =>
  B (3, [(0, .ref x0), (1, .int x1), (2, .int x2), (3, .int x3), (4, .int x4), (5, .ref x5), (6, .int x6), (7, .int (x7 + Int32.ofInt 1))], []))
set_option maxRecDepth 100000 in
theorem lm_e190_3 {sc : lm_H} {d : Nat} {x0 : Nat} {x1 : Int32} {x2 : Int32} {x3 : Int32} {x4 : Int32} {x5 : Nat} {x6 : Int32} {x7 : Int32} {σ : lm_S} {r : Except Nat lm_R × lm_S} (h : lm_q190_3 sc (lm_cal sc d) (lm_rn sc d lm_m190.2.2.2.2.1 (lm_reg lm_m190.2.2.2.2.2)) x0 x1 x2 x3 x4 x5 x6 x7  σ = some r) : lm_rn sc d lm_m190.2.2.2.2.1 (lm_reg lm_m190.2.2.2.2.2) (3, [(0, .ref x0), (1, .int x1), (2, .int x2), (3, .int x3), (4, .int x4), (5, .ref x5), (6, .int x6), (7, .int x7)], []) σ = some r := lm_rn_of h
/-- LatticeSuite$Slh.verify, from 0 on -/
noncomputable def lm_q191_0 (sc : lm_H) (A : Nat → List Value → lm_M lm_R) (B : lm_F → lm_M lm_R) (x0 : Nat) (x1 : Nat) (x2 : Nat) (x3 : Nat) (x4 : Nat) : lm_M lm_R :=
  lm_bind (lm_sel [(10, 259)] (some (.ref x0))) fun y1 =>
  lm_bind (lm_asV (A y1 [.ref x0, .ref x3, .ref x1, .int (Int32.ofInt 0), .ref x2])) fun _ =>
  lm_bind (lm_sel [(10, 270)] (some (.ref x0))) fun y2 =>
  lm_bind (lm_asV (A y2 [.ref x0, .ref x1, .int (Int32.ofInt 0)])) fun _ =>
  lm_bind (lm_sel [(10, 261)] (some (.ref x0))) fun y3 =>
  lm_bind (lm_asL (A y3 [.ref x0])) fun v4 =>
  lm_bind (lm_sel [(10, 260)] (some (.ref x0))) fun y5 =>
  lm_bind (lm_asI (A y5 [.ref x0])) fun v6 =>
  lm_bind (lm_sel [(10, 193)] (some (.ref x0))) fun y7 =>
  lm_bind (lm_asV (A y7 [.ref x0, .int (Int32.ofInt 0), .long v4])) fun _ =>
  lm_bind (lm_gI 4016 x0) fun v8 =>
  lm_bind (lm_sel [(10, 265)] (some (.ref x0))) fun y9 =>
  lm_bind (lm_asV (A y9 [.ref x0, .int v6, .ref x3, .int v8])) fun _ =>
  lm_bind (lm_gI 4016 x0) fun v10 =>
  lm_bind (lm_sel [(10, 266)] (some (.ref x0))) fun y11 =>
  lm_bind (lm_asI (A y11 [.ref x0])) fun v12 =>
  B (58, [(0, .ref x0), (1, .ref x1), (3, .ref x3), (4, .ref x4), (5, .long v4), (7, .int v6), (8, .int (v10 + v12)), (9, .int (Int32.ofInt 0))], [])
set_option maxRecDepth 100000 in
theorem lm_e191_0 {sc : lm_H} {d : Nat} {x0 : Nat} {x1 : Nat} {x2 : Nat} {x3 : Nat} {x4 : Nat} {σ : lm_S} {r : Except Nat lm_R × lm_S} (h : lm_q191_0 sc (lm_cal sc d) (lm_rn sc d lm_m191.2.2.2.2.1 (lm_reg lm_m191.2.2.2.2.2)) x0 x1 x2 x3 x4  σ = some r) : lm_rn sc d lm_m191.2.2.2.2.1 (lm_reg lm_m191.2.2.2.2.2) (0, [(0, .ref x0), (1, .ref x1), (2, .ref x2), (3, .ref x3), (4, .ref x4)], []) σ = some r := lm_rn_of h
/-- LatticeSuite$Slh.verify, from 58 on -/
noncomputable def lm_q191_58 (sc : lm_H) (A : Nat → List Value → lm_M lm_R) (B : lm_F → lm_M lm_R) (x0 : Nat) (x1 : Nat) (x3 : Nat) (x4 : Nat) (x5 : Int64) (x7 : Int32) (x8 : Int32) (x9 : Int32) : lm_M lm_R :=
  lm_bind (lm_gI 4020 x0) fun v1 =>
  lm_if .ge x9 v1 (lm_bind (lm_gR 4058 x0) fun v2 =>
  lm_bind (lm_gI 4016 x0) fun v3 =>
  lm_bind (lm_sel [(1, 133)] (some (.ref x4))) fun y4 =>
  lm_bind (lm_asV (A y4 [.ref x4, .ref v2, .int v3])) fun _ =>
  lm_bind (lm_gR 4058 x0) fun v5 =>
  lm_bind (lm_gI 4016 x0) fun v6 =>
  lm_bind (lm_gI 4016 x0) fun v7 =>
  lm_bind (lm_asI (A 136 [.ref v5, .int (Int32.ofInt 0), .ref x1, .int v6, .int v7])) fun v8 =>
  lm_when (v8 = 0 ∨ v8 = 1) inferInstance (lm_ret (some (.int v8)))) (lm_bind (lm_sel [(10, 193)] (some (.ref x0))) fun y9 =>
  lm_bind (lm_asV (A y9 [.ref x0, .int x9, .long x5])) fun _ =>
  lm_bind (lm_sel [(10, 268)] (some (.ref x0))) fun y10 =>
  lm_bind (lm_asV (A y10 [.ref x0, .int x7, .ref x3, .int x8])) fun _ =>
  lm_bind (lm_gI 4024 x0) fun v11 =>
  lm_bind (lm_gI 4024 x0) fun v12 =>
  lm_bind (lm_sel [(10, 269)] (some (.ref x0))) fun y13 =>
  lm_bind (lm_asI (A y13 [.ref x0])) fun v14 =>
  B (58, [(0, .ref x0), (1, .ref x1), (3, .ref x3), (4, .ref x4), (5, .long (lm_uL x5 v12)), (7, .int ((Int64.toInt32 x5) &&& (((Int32.ofInt 1) <<< (v11 &&& 31)) - (Int32.ofInt 1)))), (8, .int (x8 + v14)), (9, .int (x9 + Int32.ofInt 1))], []))
set_option maxRecDepth 100000 in
theorem lm_e191_58 {sc : lm_H} {d : Nat} {x0 : Nat} {x1 : Nat} {x3 : Nat} {x4 : Nat} {x5 : Int64} {x7 : Int32} {x8 : Int32} {x9 : Int32} {σ : lm_S} {r : Except Nat lm_R × lm_S} (h : lm_q191_58 sc (lm_cal sc d) (lm_rn sc d lm_m191.2.2.2.2.1 (lm_reg lm_m191.2.2.2.2.2)) x0 x1 x3 x4 x5 x7 x8 x9  σ = some r) : lm_rn sc d lm_m191.2.2.2.2.1 (lm_reg lm_m191.2.2.2.2.2) (58, [(0, .ref x0), (1, .ref x1), (3, .ref x3), (4, .ref x4), (5, .long x5), (7, .int x7), (8, .int x8), (9, .int x9)], []) σ = some r := lm_rn_of h
/-- LatticeSuite$Slh.takeSeeds, from 0 on -/
noncomputable def lm_q192_0 (sc : lm_H) (A : Nat → List Value → lm_M lm_R) (B : lm_F → lm_M lm_R) (x0 : Nat) (x1 : Nat) : lm_M lm_R :=
  lm_bind (lm_gR 4054 x0) fun v1 =>
  lm_bind (lm_gI 4016 x0) fun v2 =>
  lm_bind (lm_copy sc x1 (Int32.ofInt 0) v1 (Int32.ofInt 0) v2) fun _ =>
  lm_bind (lm_gI 4016 x0) fun v3 =>
  lm_bind (lm_sel [(10, 270)] (some (.ref x0))) fun y4 =>
  lm_bind (lm_asV (A y4 [.ref x0, .ref x1, .int ((Int32.ofInt 2) * v3)])) fun _ =>
  lm_ret none
set_option maxRecDepth 100000 in
theorem lm_e192_0 {sc : lm_H} {d : Nat} {x0 : Nat} {x1 : Nat} {σ : lm_S} {r : Except Nat lm_R × lm_S} (h : lm_q192_0 sc (lm_cal sc d) (lm_rn sc d lm_m192.2.2.2.2.1 (lm_reg lm_m192.2.2.2.2.2)) x0 x1  σ = some r) : lm_rn sc d lm_m192.2.2.2.2.1 (lm_reg lm_m192.2.2.2.2.2) (0, [(0, .ref x0), (1, .ref x1)], []) σ = some r := lm_rn_of h
/-- LatticeSuite$Slh.place, from 0 on -/
noncomputable def lm_q193_0 (sc : lm_H) (A : Nat → List Value → lm_M lm_R) (B : lm_F → lm_M lm_R) (x0 : Nat) (x1 : Int32) (x2 : Int64) : lm_M lm_R :=
  lm_bind (lm_gI 4015 x0) fun v1 =>
  lm_if .eq v1 0 (B (13, [(0, .ref x0), (1, .int x1), (2, .long x2)], [.int (Int32.ofInt 1)])) (B (13, [(0, .ref x0), (1, .int x1), (2, .long x2)], [.int (Int32.ofInt 8)]))
set_option maxRecDepth 100000 in
theorem lm_e193_0 {sc : lm_H} {d : Nat} {x0 : Nat} {x1 : Int32} {x2 : Int64} {σ : lm_S} {r : Except Nat lm_R × lm_S} (h : lm_q193_0 sc (lm_cal sc d) (lm_rn sc d lm_m193.2.2.2.2.1 (lm_reg lm_m193.2.2.2.2.2)) x0 x1 x2  σ = some r) : lm_rn sc d lm_m193.2.2.2.2.1 (lm_reg lm_m193.2.2.2.2.2) (0, [(0, .ref x0), (1, .int x1), (2, .long x2)], []) σ = some r := lm_rn_of h
/-- LatticeSuite$Slh.place, from 13 on -/
noncomputable def lm_q193_13 (sc : lm_H) (A : Nat → List Value → lm_M lm_R) (B : lm_F → lm_M lm_R) (x0 : Nat) (x1 : Int32) (x2 : Int64) (s0 : Int32) : lm_M lm_R :=
  lm_bind (lm_gR 4050 x0) fun v1 =>
  lm_bind (lm_gI 4015 x0) fun v2 =>
  lm_if .eq v2 0 (B (31, [(0, .ref x0), (1, .int x1), (2, .long x2), (4, .int s0)], [.int (Int32.ofInt 0), .ref v1])) (B (31, [(0, .ref x0), (1, .int x1), (2, .long x2), (4, .int s0)], [.int (Int32.ofInt 3), .ref v1]))
set_option maxRecDepth 100000 in
theorem lm_e193_13 {sc : lm_H} {d : Nat} {x0 : Nat} {x1 : Int32} {x2 : Int64} {s0 : Int32} {σ : lm_S} {r : Except Nat lm_R × lm_S} (h : lm_q193_13 sc (lm_cal sc d) (lm_rn sc d lm_m193.2.2.2.2.1 (lm_reg lm_m193.2.2.2.2.2)) x0 x1 x2 s0 σ = some r) : lm_rn sc d lm_m193.2.2.2.2.1 (lm_reg lm_m193.2.2.2.2.2) (13, [(0, .ref x0), (1, .int x1), (2, .long x2)], [.int s0]) σ = some r := lm_rn_of h
/-- LatticeSuite$Slh.place, from 31 on -/
noncomputable def lm_q193_31 (sc : lm_H) (A : Nat → List Value → lm_M lm_R) (B : lm_F → lm_M lm_R) (x0 : Nat) (x1 : Int32) (x2 : Int64) (x4 : Int32) (s0 : Int32) (s1 : Nat) : lm_M lm_R :=
  lm_bind (lm_bast s1 s0 (lm_b8 x1)) fun _ =>
  lm_bind (lm_gR 4050 x0) fun v1 =>
  lm_bind (lm_asV (A 131 [.int (Int64.toInt32 (lm_uL x2 (Int32.ofInt 32))), .ref v1, .int x4])) fun _ =>
  lm_bind (lm_gR 4050 x0) fun v2 =>
  lm_bind (lm_asV (A 131 [.int (Int64.toInt32 x2), .ref v2, .int (x4 + (Int32.ofInt 4))])) fun _ =>
  lm_ret none
set_option maxRecDepth 100000 in
theorem lm_e193_31 {sc : lm_H} {d : Nat} {x0 : Nat} {x1 : Int32} {x2 : Int64} {x4 : Int32} {s0 : Int32} {s1 : Nat} {σ : lm_S} {r : Except Nat lm_R × lm_S} (h : lm_q193_31 sc (lm_cal sc d) (lm_rn sc d lm_m193.2.2.2.2.1 (lm_reg lm_m193.2.2.2.2.2)) x0 x1 x2 x4 s0 s1 σ = some r) : lm_rn sc d lm_m193.2.2.2.2.1 (lm_reg lm_m193.2.2.2.2.2) (31, [(0, .ref x0), (1, .int x1), (2, .long x2), (4, .int x4)], [.int s0, .ref s1]) σ = some r := lm_rn_of h
/-- LatticeSuite$Slh.node, from 0 on -/
noncomputable def lm_q194_0 (sc : lm_H) (A : Nat → List Value → lm_M lm_R) (B : lm_F → lm_M lm_R) (x0 : Nat) (x1 : Int32) (x2 : Int32) (x3 : Int32) (x4 : Int32) (x5 : Nat) (x6 : Int32) : lm_M lm_R :=
  B (6, [(0, .ref x0), (1, .int x1), (2, .int x2), (3, .int x3), (4, .int x4), (5, .ref x5), (6, .int x6), (7, .int (Int32.ofInt 0)), (8, .int (Int32.ofInt 0))], [])
set_option maxRecDepth 100000 in
theorem lm_e194_0 {sc : lm_H} {d : Nat} {x0 : Nat} {x1 : Int32} {x2 : Int32} {x3 : Int32} {x4 : Int32} {x5 : Nat} {x6 : Int32} {σ : lm_S} {r : Except Nat lm_R × lm_S} (h : lm_q194_0 sc (lm_cal sc d) (lm_rn sc d lm_m194.2.2.2.2.1 (lm_reg lm_m194.2.2.2.2.2)) x0 x1 x2 x3 x4 x5 x6  σ = some r) : lm_rn sc d lm_m194.2.2.2.2.1 (lm_reg lm_m194.2.2.2.2.2) (0, [(0, .ref x0), (1, .int x1), (2, .int x2), (3, .int x3), (4, .int x4), (5, .ref x5), (6, .int x6)], []) σ = some r := lm_rn_of h
/-- LatticeSuite$Slh.node, from 6 on -/
noncomputable def lm_q194_6 (sc : lm_H) (A : Nat → List Value → lm_M lm_R) (B : lm_F → lm_M lm_R) (x0 : Nat) (x1 : Int32) (x2 : Int32) (x3 : Int32) (x4 : Int32) (x5 : Nat) (x6 : Int32) (x7 : Int32) (x8 : Int32) : lm_M lm_R :=
  lm_if .ge x8 ((Int32.ofInt 1) <<< (x3 &&& 31)) (lm_bind (lm_gR 4070 x0) fun v1 =>
  lm_bind (lm_gI 4016 x0) fun v2 =>
  lm_bind (lm_copy sc v1 (Int32.ofInt 0) x5 x6 v2) fun _ =>
  lm_ret none) (lm_if .ne x1 (Int32.ofInt 2) (lm_bind (lm_gR 4070 x0) fun v3 =>
  lm_bind (lm_gI 4016 x0) fun v4 =>
  lm_bind (lm_sel [(10, 272)] (some (.ref x0))) fun y5 =>
  lm_bind (lm_asV (A y5 [.ref x0, .int x2, .int ((x4 <<< (x3 &&& 31)) + x8), .ref v3, .int (x7 * v4)])) fun _ =>
  B (66, [(0, .ref x0), (1, .int x1), (2, .int x2), (3, .int x3), (4, .int x4), (5, .ref x5), (6, .int x6), (7, .int x7), (8, .int x8), (9, .int ((x4 <<< (x3 &&& 31)) + x8))], [])) (lm_bind (lm_gR 4070 x0) fun v6 =>
  lm_bind (lm_gI 4016 x0) fun v7 =>
  lm_bind (lm_sel [(10, 271)] (some (.ref x0))) fun y8 =>
  lm_bind (lm_asV (A y8 [.ref x0, .int ((x4 <<< (x3 &&& 31)) + x8), .ref v6, .int (x7 * v7)])) fun _ =>
  B (66, [(0, .ref x0), (1, .int x1), (2, .int x2), (3, .int x3), (4, .int x4), (5, .ref x5), (6, .int x6), (7, .int x7), (8, .int x8), (9, .int ((x4 <<< (x3 &&& 31)) + x8))], [])))
set_option maxRecDepth 100000 in
theorem lm_e194_6 {sc : lm_H} {d : Nat} {x0 : Nat} {x1 : Int32} {x2 : Int32} {x3 : Int32} {x4 : Int32} {x5 : Nat} {x6 : Int32} {x7 : Int32} {x8 : Int32} {σ : lm_S} {r : Except Nat lm_R × lm_S} (h : lm_q194_6 sc (lm_cal sc d) (lm_rn sc d lm_m194.2.2.2.2.1 (lm_reg lm_m194.2.2.2.2.2)) x0 x1 x2 x3 x4 x5 x6 x7 x8  σ = some r) : lm_rn sc d lm_m194.2.2.2.2.1 (lm_reg lm_m194.2.2.2.2.2) (6, [(0, .ref x0), (1, .int x1), (2, .int x2), (3, .int x3), (4, .int x4), (5, .ref x5), (6, .int x6), (7, .int x7), (8, .int x8)], []) σ = some r := lm_rn_of h
/-- LatticeSuite$Slh.node, from 66 on -/
noncomputable def lm_q194_66 (sc : lm_H) (A : Nat → List Value → lm_M lm_R) (B : lm_F → lm_M lm_R) (x0 : Nat) (x1 : Int32) (x2 : Int32) (x3 : Int32) (x4 : Int32) (x5 : Nat) (x6 : Int32) (x7 : Int32) (x8 : Int32) (x9 : Int32) : lm_M lm_R :=
  B (69, [(0, .ref x0), (1, .int x1), (2, .int x2), (3, .int x3), (4, .int x4), (5, .ref x5), (6, .int x6), (7, .int x7), (8, .int x8), (9, .int x9), (10, .int (Int32.ofInt 1))], [])
set_option maxRecDepth 100000 in
theorem lm_e194_66 {sc : lm_H} {d : Nat} {x0 : Nat} {x1 : Int32} {x2 : Int32} {x3 : Int32} {x4 : Int32} {x5 : Nat} {x6 : Int32} {x7 : Int32} {x8 : Int32} {x9 : Int32} {σ : lm_S} {r : Except Nat lm_R × lm_S} (h : lm_q194_66 sc (lm_cal sc d) (lm_rn sc d lm_m194.2.2.2.2.1 (lm_reg lm_m194.2.2.2.2.2)) x0 x1 x2 x3 x4 x5 x6 x7 x8 x9  σ = some r) : lm_rn sc d lm_m194.2.2.2.2.1 (lm_reg lm_m194.2.2.2.2.2) (66, [(0, .ref x0), (1, .int x1), (2, .int x2), (3, .int x3), (4, .int x4), (5, .ref x5), (6, .int x6), (7, .int x7), (8, .int x8), (9, .int x9)], []) σ = some r := lm_rn_of h
/-- LatticeSuite$Slh.node, from 69 on -/
noncomputable def lm_q194_69 (sc : lm_H) (A : Nat → List Value → lm_M lm_R) (B : lm_F → lm_M lm_R) (x0 : Nat) (x1 : Int32) (x2 : Int32) (x3 : Int32) (x4 : Int32) (x5 : Nat) (x6 : Int32) (x7 : Int32) (x8 : Int32) (x9 : Int32) (x10 : Int32) : lm_M lm_R :=
  lm_if .gt x10 x3 (B (142, [(0, .ref x0), (1, .int x1), (2, .int x2), (3, .int x3), (4, .int x4), (5, .ref x5), (6, .int x6), (7, .int x7), (8, .int x8)], [])) (lm_if .ne ((x8 >>> ((x10 - (Int32.ofInt 1)) &&& 31)) &&& (Int32.ofInt 1)) (Int32.ofInt 1) (B (142, [(0, .ref x0), (1, .int x1), (2, .int x2), (3, .int x3), (4, .int x4), (5, .ref x5), (6, .int x6), (7, .int x7), (8, .int x8)], [])) (lm_bind (lm_sel [(10, 263)] (some (.ref x0))) fun y1 =>
  lm_bind (lm_asV (A y1 [.ref x0, .int x1, .int x2, .int x10, .int (x9 >>> (x10 &&& 31))])) fun _ =>
  lm_bind (lm_gR 4070 x0) fun v2 =>
  lm_bind (lm_gI 4016 x0) fun v3 =>
  lm_bind (lm_gI 4016 x0) fun v4 =>
  lm_bind (lm_gR 4070 x0) fun v5 =>
  lm_bind (lm_gI 4016 x0) fun v6 =>
  lm_bind (lm_sel [(10, 264)] (some (.ref x0))) fun y7 =>
  lm_bind (lm_asV (A y7 [.ref x0, .ref v2, .int ((x7 + Int32.ofInt (-1)) * v3), .int ((Int32.ofInt 2) * v4), .ref v5, .int ((x7 + Int32.ofInt (-1)) * v6)])) fun _ =>
  B (69, [(0, .ref x0), (1, .int x1), (2, .int x2), (3, .int x3), (4, .int x4), (5, .ref x5), (6, .int x6), (7, .int (x7 + Int32.ofInt (-1))), (8, .int x8), (9, .int x9), (10, .int (x10 + Int32.ofInt 1))], [])))
set_option maxRecDepth 100000 in
theorem lm_e194_69 {sc : lm_H} {d : Nat} {x0 : Nat} {x1 : Int32} {x2 : Int32} {x3 : Int32} {x4 : Int32} {x5 : Nat} {x6 : Int32} {x7 : Int32} {x8 : Int32} {x9 : Int32} {x10 : Int32} {σ : lm_S} {r : Except Nat lm_R × lm_S} (h : lm_q194_69 sc (lm_cal sc d) (lm_rn sc d lm_m194.2.2.2.2.1 (lm_reg lm_m194.2.2.2.2.2)) x0 x1 x2 x3 x4 x5 x6 x7 x8 x9 x10  σ = some r) : lm_rn sc d lm_m194.2.2.2.2.1 (lm_reg lm_m194.2.2.2.2.2) (69, [(0, .ref x0), (1, .int x1), (2, .int x2), (3, .int x3), (4, .int x4), (5, .ref x5), (6, .int x6), (7, .int x7), (8, .int x8), (9, .int x9), (10, .int x10)], []) σ = some r := lm_rn_of h
/-- LatticeSuite$Slh.node, from 142 on -/
noncomputable def lm_q194_142 (sc : lm_H) (A : Nat → List Value → lm_M lm_R) (B : lm_F → lm_M lm_R) (x0 : Nat) (x1 : Int32) (x2 : Int32) (x3 : Int32) (x4 : Int32) (x5 : Nat) (x6 : Int32) (x7 : Int32) (x8 : Int32) : lm_M lm_R :=
  B (6, [(0, .ref x0), (1, .int x1), (2, .int x2), (3, .int x3), (4, .int x4), (5, .ref x5), (6, .int x6), (7, .int (x7 + Int32.ofInt 1)), (8, .int (x8 + Int32.ofInt 1))], [])
set_option maxRecDepth 100000 in
theorem lm_e194_142 {sc : lm_H} {d : Nat} {x0 : Nat} {x1 : Int32} {x2 : Int32} {x3 : Int32} {x4 : Int32} {x5 : Nat} {x6 : Int32} {x7 : Int32} {x8 : Int32} {σ : lm_S} {r : Except Nat lm_R × lm_S} (h : lm_q194_142 sc (lm_cal sc d) (lm_rn sc d lm_m194.2.2.2.2.1 (lm_reg lm_m194.2.2.2.2.2)) x0 x1 x2 x3 x4 x5 x6 x7 x8  σ = some r) : lm_rn sc d lm_m194.2.2.2.2.1 (lm_reg lm_m194.2.2.2.2.2) (142, [(0, .ref x0), (1, .int x1), (2, .int x2), (3, .int x3), (4, .int x4), (5, .ref x5), (6, .int x6), (7, .int x7), (8, .int x8)], []) σ = some r := lm_rn_of h
/-- LatticeSuite$Hash.<init>, from 0 on -/
noncomputable def lm_q195_0 (sc : lm_H) (A : Nat → List Value → lm_M lm_R) (B : lm_F → lm_M lm_R) (x0 : Nat) (x1 : Int32) : lm_M lm_R :=
  lm_bind (lm_newa .byte x1) fun q1 =>
  lm_bind (lm_putf 1202 x0 (.ref q1)) fun _ =>
  lm_bind (lm_newa .byte x1) fun q2 =>
  lm_bind (lm_putf 1218 x0 (.ref q2)) fun _ =>
  lm_bind (lm_putf 1204 x0 (.int x1)) fun _ =>
  lm_ret none
set_option maxRecDepth 100000 in
theorem lm_e195_0 {sc : lm_H} {d : Nat} {x0 : Nat} {x1 : Int32} {σ : lm_S} {r : Except Nat lm_R × lm_S} (h : lm_q195_0 sc (lm_cal sc d) (lm_rn sc d lm_m195.2.2.2.2.1 (lm_reg lm_m195.2.2.2.2.2)) x0 x1  σ = some r) : lm_rn sc d lm_m195.2.2.2.2.1 (lm_reg lm_m195.2.2.2.2.2) (0, [(0, .ref x0), (1, .int x1)], []) σ = some r := lm_rn_of h
/-- java/lang/Integer.reverse, from 0 on -/
noncomputable def lm_q196_0 (sc : lm_H) (A : Nat → List Value → lm_M lm_R) (B : lm_F → lm_M lm_R) (x0 : Int32) : lm_M lm_R :=
  lm_bind (lm_asI (A 273 [.int (((((((((x0 &&& (Int32.ofInt 1431655765)) <<< ((Int32.ofInt 1) &&& 31)) ||| ((lm_us x0 (Int32.ofInt 1)) &&& (Int32.ofInt 1431655765))) &&& (Int32.ofInt 858993459)) <<< ((Int32.ofInt 2) &&& 31)) ||| ((lm_us (((x0 &&& (Int32.ofInt 1431655765)) <<< ((Int32.ofInt 1) &&& 31)) ||| ((lm_us x0 (Int32.ofInt 1)) &&& (Int32.ofInt 1431655765))) (Int32.ofInt 2)) &&& (Int32.ofInt 858993459))) &&& (Int32.ofInt 252645135)) <<< ((Int32.ofInt 4) &&& 31)) ||| ((lm_us ((((((x0 &&& (Int32.ofInt 1431655765)) <<< ((Int32.ofInt 1) &&& 31)) ||| ((lm_us x0 (Int32.ofInt 1)) &&& (Int32.ofInt 1431655765))) &&& (Int32.ofInt 858993459)) <<< ((Int32.ofInt 2) &&& 31)) ||| ((lm_us (((x0 &&& (Int32.ofInt 1431655765)) <<< ((Int32.ofInt 1) &&& 31)) ||| ((lm_us x0 (Int32.ofInt 1)) &&& (Int32.ofInt 1431655765))) (Int32.ofInt 2)) &&& (Int32.ofInt 858993459))) (Int32.ofInt 4)) &&& (Int32.ofInt 252645135)))])) fun v1 =>
  lm_ret (some (.int v1))
set_option maxRecDepth 100000 in
theorem lm_e196_0 {sc : lm_H} {d : Nat} {x0 : Int32} {σ : lm_S} {r : Except Nat lm_R × lm_S} (h : lm_q196_0 sc (lm_cal sc d) (lm_rn sc d lm_m196.2.2.2.2.1 (lm_reg lm_m196.2.2.2.2.2)) x0  σ = some r) : lm_rn sc d lm_m196.2.2.2.2.1 (lm_reg lm_m196.2.2.2.2.2) (0, [(0, .int x0)], []) σ = some r := lm_rn_of h
/-- LatticeSuiteModel.above, from 0 on -/
noncomputable def lm_q197_0 (sc : lm_H) (A : Nat → List Value → lm_M lm_R) (B : lm_F → lm_M lm_R) (x0 : Nat) (x1 : Int32) (x2 : Int64) (x4 : Int32) (x5 : Int32) : lm_M lm_R :=
  B (3, [(0, .ref x0), (1, .int x1), (2, .long x2), (4, .int x4), (5, .int x5), (6, .int (Int32.ofInt 0))], [])
set_option maxRecDepth 100000 in
theorem lm_e197_0 {sc : lm_H} {d : Nat} {x0 : Nat} {x1 : Int32} {x2 : Int64} {x4 : Int32} {x5 : Int32} {σ : lm_S} {r : Except Nat lm_R × lm_S} (h : lm_q197_0 sc (lm_cal sc d) (lm_rn sc d lm_m197.2.2.2.2.1 (lm_reg lm_m197.2.2.2.2.2)) x0 x1 x2 x4 x5  σ = some r) : lm_rn sc d lm_m197.2.2.2.2.1 (lm_reg lm_m197.2.2.2.2.2) (0, [(0, .ref x0), (1, .int x1), (2, .long x2), (4, .int x4), (5, .int x5)], []) σ = some r := lm_rn_of h
/-- LatticeSuiteModel.above, from 3 on -/
noncomputable def lm_q197_3 (sc : lm_H) (A : Nat → List Value → lm_M lm_R) (B : lm_F → lm_M lm_R) (x0 : Nat) (x1 : Int32) (x2 : Int64) (x4 : Int32) (x5 : Int32) (x6 : Int32) : lm_M lm_R :=
  lm_if .ge x6 (Int32.ofInt 16) (B (36, [(0, .ref x0), (1, .int x1), (2, .long x2), (4, .int x4), (5, .int x5), (6, .int (Int32.ofInt 0))], [])) (lm_bind (lm_gR 4442 x0) fun v1 =>
  lm_if .ne x6 0 (B (26, [(0, .ref x0), (1, .int x1), (2, .long x2), (4, .int x4), (5, .int x5), (6, .int x6)], [.long (Int64.ofNat 0), .int x6, .ref v1])) (B (26, [(0, .ref x0), (1, .int x1), (2, .long x2), (4, .int x4), (5, .int x5), (6, .int x6)], [.long (Int64.ofNat 1), .int x6, .ref v1])))
set_option maxRecDepth 100000 in
theorem lm_e197_3 {sc : lm_H} {d : Nat} {x0 : Nat} {x1 : Int32} {x2 : Int64} {x4 : Int32} {x5 : Int32} {x6 : Int32} {σ : lm_S} {r : Except Nat lm_R × lm_S} (h : lm_q197_3 sc (lm_cal sc d) (lm_rn sc d lm_m197.2.2.2.2.1 (lm_reg lm_m197.2.2.2.2.2)) x0 x1 x2 x4 x5 x6  σ = some r) : lm_rn sc d lm_m197.2.2.2.2.1 (lm_reg lm_m197.2.2.2.2.2) (3, [(0, .ref x0), (1, .int x1), (2, .long x2), (4, .int x4), (5, .int x5), (6, .int x6)], []) σ = some r := lm_rn_of h
/-- LatticeSuiteModel.above, from 36 on -/
noncomputable def lm_q197_36 (sc : lm_H) (A : Nat → List Value → lm_M lm_R) (B : lm_F → lm_M lm_R) (x0 : Nat) (x1 : Int32) (x2 : Int64) (x4 : Int32) (x5 : Int32) (x6 : Int32) : lm_M lm_R :=
  lm_if .ge x6 x4 (lm_bind (lm_gR 4442 x0) fun v1 =>
  lm_bind (lm_lald sc v1 ((Int32.ofInt 4) * x4)) fun v2 =>
  lm_bind (lm_gR 4442 x0) fun v3 =>
  lm_bind (lm_lald sc v3 (((Int32.ofInt 4) * x4) + (Int32.ofInt 1))) fun v4 =>
  B (240, [(0, .ref x0), (4, .int x4), (5, .int x5), (6, .long (v2 + (v4 <<< ((Int32.toInt64 (Int32.ofInt 16)) &&& 63)))), (8, .int (Int32.ofInt 0)), (9, .int (Int32.ofInt 0))], [])) (B (46, [(0, .ref x0), (1, .int x1), (2, .long x2), (4, .int x4), (5, .int x5), (6, .int x6), (7, .int (Int32.ofInt 0))], []))
set_option maxRecDepth 100000 in
theorem lm_e197_36 {sc : lm_H} {d : Nat} {x0 : Nat} {x1 : Int32} {x2 : Int64} {x4 : Int32} {x5 : Int32} {x6 : Int32} {σ : lm_S} {r : Except Nat lm_R × lm_S} (h : lm_q197_36 sc (lm_cal sc d) (lm_rn sc d lm_m197.2.2.2.2.1 (lm_reg lm_m197.2.2.2.2.2)) x0 x1 x2 x4 x5 x6  σ = some r) : lm_rn sc d lm_m197.2.2.2.2.1 (lm_reg lm_m197.2.2.2.2.2) (36, [(0, .ref x0), (1, .int x1), (2, .long x2), (4, .int x4), (5, .int x5), (6, .int x6)], []) σ = some r := lm_rn_of h
/-- LatticeSuiteModel.above, from 26 on -/
noncomputable def lm_q197_26 (sc : lm_H) (A : Nat → List Value → lm_M lm_R) (B : lm_F → lm_M lm_R) (x0 : Nat) (x1 : Int32) (x2 : Int64) (x4 : Int32) (x5 : Int32) (x6 : Int32) (s0 : Int64) (s1 : Int32) (s2 : Nat) : lm_M lm_R :=
  lm_bind (lm_last s2 s1 s0) fun _ =>
  B (3, [(0, .ref x0), (1, .int x1), (2, .long x2), (4, .int x4), (5, .int x5), (6, .int (x6 + Int32.ofInt 1))], [])
set_option maxRecDepth 100000 in
theorem lm_e197_26 {sc : lm_H} {d : Nat} {x0 : Nat} {x1 : Int32} {x2 : Int64} {x4 : Int32} {x5 : Int32} {x6 : Int32} {s0 : Int64} {s1 : Int32} {s2 : Nat} {σ : lm_S} {r : Except Nat lm_R × lm_S} (h : lm_q197_26 sc (lm_cal sc d) (lm_rn sc d lm_m197.2.2.2.2.1 (lm_reg lm_m197.2.2.2.2.2)) x0 x1 x2 x4 x5 x6 s0 s1 s2 σ = some r) : lm_rn sc d lm_m197.2.2.2.2.1 (lm_reg lm_m197.2.2.2.2.2) (26, [(0, .ref x0), (1, .int x1), (2, .long x2), (4, .int x4), (5, .int x5), (6, .int x6)], [.long s0, .int s1, .ref s2]) σ = some r := lm_rn_of h
/-- LatticeSuiteModel.above, from 240 on -/
noncomputable def lm_q197_240 (sc : lm_H) (A : Nat → List Value → lm_M lm_R) (B : lm_F → lm_M lm_R) (x0 : Nat) (x4 : Int32) (x5 : Int32) (x6 : Int64) (x8 : Int32) (x9 : Int32) : lm_M lm_R :=
  lm_if .ge x9 ((Int32.ofInt 4) * x4) (lm_if .gt (lg_cmp x6 (Int32.toInt64 x5)) 0 (B (293, [], [])) (lm_if .ne (lg_cmp x6 (Int32.toInt64 x5)) 0 (lm_when ((Int32.ofInt 0) = 0 ∨ (Int32.ofInt 0) = 1) inferInstance (lm_ret (some (.int (Int32.ofInt 0))))) (lm_if .eq x8 0 (lm_when ((Int32.ofInt 0) = 0 ∨ (Int32.ofInt 0) = 1) inferInstance (lm_ret (some (.int (Int32.ofInt 0))))) (B (293, [], []))))) (lm_bind (lm_gR 4442 x0) fun v1 =>
  lm_bind (lm_lald sc v1 x9) fun v2 =>
  lm_if .eq (lg_cmp v2 (Int64.ofNat 0)) 0 (B (264, [(0, .ref x0), (4, .int x4), (5, .int x5), (6, .long x6), (8, .int x8), (9, .int x9)], [])) (B (264, [(0, .ref x0), (4, .int x4), (5, .int x5), (6, .long x6), (8, .int (Int32.ofInt 1)), (9, .int x9)], [])))
set_option maxRecDepth 100000 in
theorem lm_e197_240 {sc : lm_H} {d : Nat} {x0 : Nat} {x4 : Int32} {x5 : Int32} {x6 : Int64} {x8 : Int32} {x9 : Int32} {σ : lm_S} {r : Except Nat lm_R × lm_S} (h : lm_q197_240 sc (lm_cal sc d) (lm_rn sc d lm_m197.2.2.2.2.1 (lm_reg lm_m197.2.2.2.2.2)) x0 x4 x5 x6 x8 x9  σ = some r) : lm_rn sc d lm_m197.2.2.2.2.1 (lm_reg lm_m197.2.2.2.2.2) (240, [(0, .ref x0), (4, .int x4), (5, .int x5), (6, .long x6), (8, .int x8), (9, .int x9)], []) σ = some r := lm_rn_of h
/-- LatticeSuiteModel.above, from 46 on -/
noncomputable def lm_q197_46 (sc : lm_H) (A : Nat → List Value → lm_M lm_R) (B : lm_F → lm_M lm_R) (x0 : Nat) (x1 : Int32) (x2 : Int64) (x4 : Int32) (x5 : Int32) (x6 : Int32) (x7 : Int32) : lm_M lm_R :=
  lm_if .ge x7 (Int32.ofInt 16) (B (70, [(0, .ref x0), (1, .int x1), (2, .long x2), (4, .int x4), (5, .int x5), (6, .int x6), (7, .int (Int32.ofInt 0))], [])) (lm_bind (lm_gR 4438 x0) fun v1 =>
  lm_bind (lm_last v1 x7 (Int64.ofNat 0)) fun _ =>
  B (46, [(0, .ref x0), (1, .int x1), (2, .long x2), (4, .int x4), (5, .int x5), (6, .int x6), (7, .int (x7 + Int32.ofInt 1))], []))
set_option maxRecDepth 100000 in
theorem lm_e197_46 {sc : lm_H} {d : Nat} {x0 : Nat} {x1 : Int32} {x2 : Int64} {x4 : Int32} {x5 : Int32} {x6 : Int32} {x7 : Int32} {σ : lm_S} {r : Except Nat lm_R × lm_S} (h : lm_q197_46 sc (lm_cal sc d) (lm_rn sc d lm_m197.2.2.2.2.1 (lm_reg lm_m197.2.2.2.2.2)) x0 x1 x2 x4 x5 x6 x7  σ = some r) : lm_rn sc d lm_m197.2.2.2.2.1 (lm_reg lm_m197.2.2.2.2.2) (46, [(0, .ref x0), (1, .int x1), (2, .long x2), (4, .int x4), (5, .int x5), (6, .int x6), (7, .int x7)], []) σ = some r := lm_rn_of h
/-- LatticeSuiteModel.above, from 293 on -/
noncomputable def lm_q197_293 (sc : lm_H) (A : Nat → List Value → lm_M lm_R) (B : lm_F → lm_M lm_R)  : lm_M lm_R :=
  lm_when ((Int32.ofInt 1) = 0 ∨ (Int32.ofInt 1) = 1) inferInstance (lm_ret (some (.int (Int32.ofInt 1))))
set_option maxRecDepth 100000 in
theorem lm_e197_293 {sc : lm_H} {d : Nat}  {σ : lm_S} {r : Except Nat lm_R × lm_S} (h : lm_q197_293 sc (lm_cal sc d) (lm_rn sc d lm_m197.2.2.2.2.1 (lm_reg lm_m197.2.2.2.2.2))   σ = some r) : lm_rn sc d lm_m197.2.2.2.2.1 (lm_reg lm_m197.2.2.2.2.2) (293, [], []) σ = some r := lm_rn_of h
/-- LatticeSuiteModel.above, from 264 on -/
noncomputable def lm_q197_264 (sc : lm_H) (A : Nat → List Value → lm_M lm_R) (B : lm_F → lm_M lm_R) (x0 : Nat) (x4 : Int32) (x5 : Int32) (x6 : Int64) (x8 : Int32) (x9 : Int32) : lm_M lm_R :=
  B (240, [(0, .ref x0), (4, .int x4), (5, .int x5), (6, .long x6), (8, .int x8), (9, .int (x9 + Int32.ofInt 1))], [])
set_option maxRecDepth 100000 in
theorem lm_e197_264 {sc : lm_H} {d : Nat} {x0 : Nat} {x4 : Int32} {x5 : Int32} {x6 : Int64} {x8 : Int32} {x9 : Int32} {σ : lm_S} {r : Except Nat lm_R × lm_S} (h : lm_q197_264 sc (lm_cal sc d) (lm_rn sc d lm_m197.2.2.2.2.1 (lm_reg lm_m197.2.2.2.2.2)) x0 x4 x5 x6 x8 x9  σ = some r) : lm_rn sc d lm_m197.2.2.2.2.1 (lm_reg lm_m197.2.2.2.2.2) (264, [(0, .ref x0), (4, .int x4), (5, .int x5), (6, .long x6), (8, .int x8), (9, .int x9)], []) σ = some r := lm_rn_of h
/-- LatticeSuiteModel.above, from 70 on -/
noncomputable def lm_q197_70 (sc : lm_H) (A : Nat → List Value → lm_M lm_R) (B : lm_F → lm_M lm_R) (x0 : Nat) (x1 : Int32) (x2 : Int64) (x4 : Int32) (x5 : Int32) (x6 : Int32) (x7 : Int32) : lm_M lm_R :=
  lm_if .ge x7 (Int32.ofInt 16) (B (157, [(0, .ref x0), (1, .int x1), (2, .long x2), (4, .int x4), (5, .int x5), (6, .int x6), (7, .long (Int64.ofNat 0)), (9, .int (Int32.ofInt 0))], [])) (B (80, [(0, .ref x0), (1, .int x1), (2, .long x2), (4, .int x4), (5, .int x5), (6, .int x6), (7, .int x7), (8, .int (Int32.ofInt 0))], []))
set_option maxRecDepth 100000 in
theorem lm_e197_70 {sc : lm_H} {d : Nat} {x0 : Nat} {x1 : Int32} {x2 : Int64} {x4 : Int32} {x5 : Int32} {x6 : Int32} {x7 : Int32} {σ : lm_S} {r : Except Nat lm_R × lm_S} (h : lm_q197_70 sc (lm_cal sc d) (lm_rn sc d lm_m197.2.2.2.2.1 (lm_reg lm_m197.2.2.2.2.2)) x0 x1 x2 x4 x5 x6 x7  σ = some r) : lm_rn sc d lm_m197.2.2.2.2.1 (lm_reg lm_m197.2.2.2.2.2) (70, [(0, .ref x0), (1, .int x1), (2, .long x2), (4, .int x4), (5, .int x5), (6, .int x6), (7, .int x7)], []) σ = some r := lm_rn_of h
/-- LatticeSuiteModel.above, from 157 on -/
noncomputable def lm_q197_157 (sc : lm_H) (A : Nat → List Value → lm_M lm_R) (B : lm_F → lm_M lm_R) (x0 : Nat) (x1 : Int32) (x2 : Int64) (x4 : Int32) (x5 : Int32) (x6 : Int32) (x7 : Int64) (x9 : Int32) : lm_M lm_R :=
  lm_if .ge x9 (Int32.ofInt 16) (B (36, [(0, .ref x0), (1, .int x1), (2, .long x2), (4, .int x4), (5, .int x5), (6, .int (x6 + Int32.ofInt 1))], [])) (lm_bind (lm_gR 4438 x0) fun v1 =>
  lm_bind (lm_lald sc v1 x9) fun v2 =>
  lm_bind (lm_gR 4442 x0) fun v3 =>
  lm_bind (lm_last v3 x9 ((x7 + v2) &&& (Int64.ofNat 65535))) fun _ =>
  B (157, [(0, .ref x0), (1, .int x1), (2, .long x2), (4, .int x4), (5, .int x5), (6, .int x6), (7, .long (lm_uL (x7 + v2) (Int32.ofInt 16))), (9, .int (x9 + Int32.ofInt 1))], []))
set_option maxRecDepth 100000 in
theorem lm_e197_157 {sc : lm_H} {d : Nat} {x0 : Nat} {x1 : Int32} {x2 : Int64} {x4 : Int32} {x5 : Int32} {x6 : Int32} {x7 : Int64} {x9 : Int32} {σ : lm_S} {r : Except Nat lm_R × lm_S} (h : lm_q197_157 sc (lm_cal sc d) (lm_rn sc d lm_m197.2.2.2.2.1 (lm_reg lm_m197.2.2.2.2.2)) x0 x1 x2 x4 x5 x6 x7 x9  σ = some r) : lm_rn sc d lm_m197.2.2.2.2.1 (lm_reg lm_m197.2.2.2.2.2) (157, [(0, .ref x0), (1, .int x1), (2, .long x2), (4, .int x4), (5, .int x5), (6, .int x6), (7, .long x7), (9, .int x9)], []) σ = some r := lm_rn_of h
/-- LatticeSuiteModel.above, from 80 on -/
noncomputable def lm_q197_80 (sc : lm_H) (A : Nat → List Value → lm_M lm_R) (B : lm_F → lm_M lm_R) (x0 : Nat) (x1 : Int32) (x2 : Int64) (x4 : Int32) (x5 : Int32) (x6 : Int32) (x7 : Int32) (x8 : Int32) : lm_M lm_R :=
  lm_if .ge x8 (Int32.ofInt 5) (B (145, [(0, .ref x0), (1, .int x1), (2, .long x2), (4, .int x4), (5, .int x5), (6, .int x6), (7, .int x7)], [])) (lm_if .ge (x7 + x8) (Int32.ofInt 16) (B (145, [(0, .ref x0), (1, .int x1), (2, .long x2), (4, .int x4), (5, .int x5), (6, .int x6), (7, .int x7)], [])) (lm_bind (lm_gR 4438 x0) fun v1 =>
  lm_bind (lm_lald sc v1 (x7 + x8)) fun v2 =>
  lm_bind (lm_gR 4442 x0) fun v3 =>
  lm_bind (lm_lald sc v3 x7) fun v4 =>
  lm_if .ge x8 (Int32.ofInt 4) (B (136, [(0, .ref x0), (1, .int x1), (2, .long x2), (4, .int x4), (5, .int x5), (6, .int x6), (7, .int x7), (8, .int x8)], [.long (Int32.toInt64 x1), .long v4, .long v2, .int (x7 + x8), .ref v1])) (B (136, [(0, .ref x0), (1, .int x1), (2, .long x2), (4, .int x4), (5, .int x5), (6, .int x6), (7, .int x7), (8, .int x8)], [.long ((lm_uL x2 ((Int32.ofInt 16) * x8)) &&& (Int64.ofNat 65535)), .long v4, .long v2, .int (x7 + x8), .ref v1]))))
set_option maxRecDepth 100000 in
theorem lm_e197_80 {sc : lm_H} {d : Nat} {x0 : Nat} {x1 : Int32} {x2 : Int64} {x4 : Int32} {x5 : Int32} {x6 : Int32} {x7 : Int32} {x8 : Int32} {σ : lm_S} {r : Except Nat lm_R × lm_S} (h : lm_q197_80 sc (lm_cal sc d) (lm_rn sc d lm_m197.2.2.2.2.1 (lm_reg lm_m197.2.2.2.2.2)) x0 x1 x2 x4 x5 x6 x7 x8  σ = some r) : lm_rn sc d lm_m197.2.2.2.2.1 (lm_reg lm_m197.2.2.2.2.2) (80, [(0, .ref x0), (1, .int x1), (2, .long x2), (4, .int x4), (5, .int x5), (6, .int x6), (7, .int x7), (8, .int x8)], []) σ = some r := lm_rn_of h
/-- LatticeSuiteModel.above, from 145 on -/
noncomputable def lm_q197_145 (sc : lm_H) (A : Nat → List Value → lm_M lm_R) (B : lm_F → lm_M lm_R) (x0 : Nat) (x1 : Int32) (x2 : Int64) (x4 : Int32) (x5 : Int32) (x6 : Int32) (x7 : Int32) : lm_M lm_R :=
  B (70, [(0, .ref x0), (1, .int x1), (2, .long x2), (4, .int x4), (5, .int x5), (6, .int x6), (7, .int (x7 + Int32.ofInt 1))], [])
set_option maxRecDepth 100000 in
theorem lm_e197_145 {sc : lm_H} {d : Nat} {x0 : Nat} {x1 : Int32} {x2 : Int64} {x4 : Int32} {x5 : Int32} {x6 : Int32} {x7 : Int32} {σ : lm_S} {r : Except Nat lm_R × lm_S} (h : lm_q197_145 sc (lm_cal sc d) (lm_rn sc d lm_m197.2.2.2.2.1 (lm_reg lm_m197.2.2.2.2.2)) x0 x1 x2 x4 x5 x6 x7  σ = some r) : lm_rn sc d lm_m197.2.2.2.2.1 (lm_reg lm_m197.2.2.2.2.2) (145, [(0, .ref x0), (1, .int x1), (2, .long x2), (4, .int x4), (5, .int x5), (6, .int x6), (7, .int x7)], []) σ = some r := lm_rn_of h
/-- LatticeSuiteModel.above, from 136 on -/
noncomputable def lm_q197_136 (sc : lm_H) (A : Nat → List Value → lm_M lm_R) (B : lm_F → lm_M lm_R) (x0 : Nat) (x1 : Int32) (x2 : Int64) (x4 : Int32) (x5 : Int32) (x6 : Int32) (x7 : Int32) (x8 : Int32) (s0 : Int64) (s1 : Int64) (s2 : Int64) (s3 : Int32) (s4 : Nat) : lm_M lm_R :=
  lm_bind (lm_last s4 s3 (s2 + (s1 * s0))) fun _ =>
  B (80, [(0, .ref x0), (1, .int x1), (2, .long x2), (4, .int x4), (5, .int x5), (6, .int x6), (7, .int x7), (8, .int (x8 + Int32.ofInt 1))], [])
set_option maxRecDepth 100000 in
theorem lm_e197_136 {sc : lm_H} {d : Nat} {x0 : Nat} {x1 : Int32} {x2 : Int64} {x4 : Int32} {x5 : Int32} {x6 : Int32} {x7 : Int32} {x8 : Int32} {s0 : Int64} {s1 : Int64} {s2 : Int64} {s3 : Int32} {s4 : Nat} {σ : lm_S} {r : Except Nat lm_R × lm_S} (h : lm_q197_136 sc (lm_cal sc d) (lm_rn sc d lm_m197.2.2.2.2.1 (lm_reg lm_m197.2.2.2.2.2)) x0 x1 x2 x4 x5 x6 x7 x8 s0 s1 s2 s3 s4 σ = some r) : lm_rn sc d lm_m197.2.2.2.2.1 (lm_reg lm_m197.2.2.2.2.2) (136, [(0, .ref x0), (1, .int x1), (2, .long x2), (4, .int x4), (5, .int x5), (6, .int x6), (7, .int x7), (8, .int x8)], [.long s0, .long s1, .long s2, .int s3, .ref s4]) σ = some r := lm_rn_of h
/-- java/util/Arrays.rangeCheck, from 0 on -/
noncomputable def lm_q198_0 (sc : lm_H) (A : Nat → List Value → lm_M lm_R) (B : lm_F → lm_M lm_R) (x0 : Int32) (x1 : Int32) (x2 : Int32) : lm_M lm_R :=
  lm_if .le x1 x2 (lm_if .ge x1 0 (lm_if .le x2 x0 (lm_ret none) (lm_bad)) (lm_bad)) (lm_bad)
set_option maxRecDepth 100000 in
theorem lm_e198_0 {sc : lm_H} {d : Nat} {x0 : Int32} {x1 : Int32} {x2 : Int32} {σ : lm_S} {r : Except Nat lm_R × lm_S} (h : lm_q198_0 sc (lm_cal sc d) (lm_rn sc d lm_m198.2.2.2.2.1 (lm_reg lm_m198.2.2.2.2.2)) x0 x1 x2  σ = some r) : lm_rn sc d lm_m198.2.2.2.2.1 (lm_reg lm_m198.2.2.2.2.2) (0, [(0, .int x0), (1, .int x1), (2, .int x2)], []) σ = some r := lm_rn_of h
/-- java/util/Arrays.fill, from 0 on -/
noncomputable def lm_q199_0 (sc : lm_H) (A : Nat → List Value → lm_M lm_R) (B : lm_F → lm_M lm_R) (x0 : Nat) (x1 : Int32) : lm_M lm_R :=
  lm_bind (lm_alen sc x0) fun v1 =>
  B (5, [(0, .ref x0), (1, .int x1), (2, .int (Int32.ofInt 0)), (3, .int v1)], [])
set_option maxRecDepth 100000 in
theorem lm_e199_0 {sc : lm_H} {d : Nat} {x0 : Nat} {x1 : Int32} {σ : lm_S} {r : Except Nat lm_R × lm_S} (h : lm_q199_0 sc (lm_cal sc d) (lm_rn sc d lm_m199.2.2.2.2.1 (lm_reg lm_m199.2.2.2.2.2)) x0 x1  σ = some r) : lm_rn sc d lm_m199.2.2.2.2.1 (lm_reg lm_m199.2.2.2.2.2) (0, [(0, .ref x0), (1, .int x1)], []) σ = some r := lm_rn_of h
/-- java/util/Arrays.fill, from 5 on -/
noncomputable def lm_q199_5 (sc : lm_H) (A : Nat → List Value → lm_M lm_R) (B : lm_F → lm_M lm_R) (x0 : Nat) (x1 : Int32) (x2 : Int32) (x3 : Int32) : lm_M lm_R :=
  lm_if .ge x2 x3 (lm_ret none) (lm_bind (lm_bast x0 x2 x1) fun _ =>
  B (5, [(0, .ref x0), (1, .int x1), (2, .int (x2 + Int32.ofInt 1)), (3, .int x3)], []))
set_option maxRecDepth 100000 in
theorem lm_e199_5 {sc : lm_H} {d : Nat} {x0 : Nat} {x1 : Int32} {x2 : Int32} {x3 : Int32} {σ : lm_S} {r : Except Nat lm_R × lm_S} (h : lm_q199_5 sc (lm_cal sc d) (lm_rn sc d lm_m199.2.2.2.2.1 (lm_reg lm_m199.2.2.2.2.2)) x0 x1 x2 x3  σ = some r) : lm_rn sc d lm_m199.2.2.2.2.1 (lm_reg lm_m199.2.2.2.2.2) (5, [(0, .ref x0), (1, .int x1), (2, .int x2), (3, .int x3)], []) σ = some r := lm_rn_of h
/-- LatticeSuite$Sponge.start, from 0 on -/
noncomputable def lm_q200_0 (sc : lm_H) (A : Nat → List Value → lm_M lm_R) (B : lm_F → lm_M lm_R) (x0 : Nat) (x1 : Int32) : lm_M lm_R :=
  lm_if .lt x1 (Int32.ofInt 11) (B (11, [(0, .ref x0), (1, .int x1)], [.int (Int32.ofInt 0)])) (B (11, [(0, .ref x0), (1, .int x1)], [.int (Int32.ofInt 1)]))
set_option maxRecDepth 100000 in
theorem lm_e200_0 {sc : lm_H} {d : Nat} {x0 : Nat} {x1 : Int32} {σ : lm_S} {r : Except Nat lm_R × lm_S} (h : lm_q200_0 sc (lm_cal sc d) (lm_rn sc d lm_m200.2.2.2.2.1 (lm_reg lm_m200.2.2.2.2.2)) x0 x1  σ = some r) : lm_rn sc d lm_m200.2.2.2.2.1 (lm_reg lm_m200.2.2.2.2.2) (0, [(0, .ref x0), (1, .int x1)], []) σ = some r := lm_rn_of h
/-- LatticeSuite$Sponge.start, from 11 on -/
noncomputable def lm_q200_11 (sc : lm_H) (A : Nat → List Value → lm_M lm_R) (B : lm_F → lm_M lm_R) (x0 : Nat) (x1 : Int32) (s0 : Int32) : lm_M lm_R :=
  lm_if .ne x1 (Int32.ofInt 11) (lm_if .ne x1 (Int32.ofInt 12) (lm_bind (lm_iald sc (lm_B + 1) x1) fun v1 =>
  B (48, [(0, .ref x0), (2, .int s0)], [.int ((Int32.ofInt 200) - ((Int32.ofInt 2) * v1)), .ref x0])) (B (48, [(0, .ref x0), (2, .int s0)], [.int (Int32.ofInt 136), .ref x0]))) (B (48, [(0, .ref x0), (2, .int s0)], [.int (Int32.ofInt 168), .ref x0]))
set_option maxRecDepth 100000 in
theorem lm_e200_11 {sc : lm_H} {d : Nat} {x0 : Nat} {x1 : Int32} {s0 : Int32} {σ : lm_S} {r : Except Nat lm_R × lm_S} (h : lm_q200_11 sc (lm_cal sc d) (lm_rn sc d lm_m200.2.2.2.2.1 (lm_reg lm_m200.2.2.2.2.2)) x0 x1 s0 σ = some r) : lm_rn sc d lm_m200.2.2.2.2.1 (lm_reg lm_m200.2.2.2.2.2) (11, [(0, .ref x0), (1, .int x1)], [.int s0]) σ = some r := lm_rn_of h
/-- LatticeSuite$Sponge.start, from 48 on -/
noncomputable def lm_q200_48 (sc : lm_H) (A : Nat → List Value → lm_M lm_R) (B : lm_F → lm_M lm_R) (x0 : Nat) (x2 : Int32) (s0 : Int32) (s1 : Nat) : lm_M lm_R :=
  lm_bind (lm_putf 2004 s1 (.int s0)) fun _ =>
  lm_if .eq x2 0 (B (63, [(0, .ref x0)], [.int (Int32.ofInt 6), .ref x0])) (B (63, [(0, .ref x0)], [.int (Int32.ofInt 31), .ref x0]))
set_option maxRecDepth 100000 in
theorem lm_e200_48 {sc : lm_H} {d : Nat} {x0 : Nat} {x2 : Int32} {s0 : Int32} {s1 : Nat} {σ : lm_S} {r : Except Nat lm_R × lm_S} (h : lm_q200_48 sc (lm_cal sc d) (lm_rn sc d lm_m200.2.2.2.2.1 (lm_reg lm_m200.2.2.2.2.2)) x0 x2 s0 s1 σ = some r) : lm_rn sc d lm_m200.2.2.2.2.1 (lm_reg lm_m200.2.2.2.2.2) (48, [(0, .ref x0), (2, .int x2)], [.int s0, .ref s1]) σ = some r := lm_rn_of h
/-- LatticeSuite$Sponge.start, from 63 on -/
noncomputable def lm_q200_63 (sc : lm_H) (A : Nat → List Value → lm_M lm_R) (B : lm_F → lm_M lm_R) (x0 : Nat) (s0 : Int32) (s1 : Nat) : lm_M lm_R :=
  lm_bind (lm_putf 2040 s1 (.int s0)) fun _ =>
  lm_bind (lm_gR 2030 x0) fun v1 =>
  lm_bind (lm_asV (A 274 [.ref v1, .long (Int64.ofNat 0)])) fun _ =>
  lm_bind (lm_sel [(5, 275)] (some (.ref x0))) fun y2 =>
  lm_bind (lm_asV (A y2 [.ref x0])) fun _ =>
  lm_ret none
set_option maxRecDepth 100000 in
theorem lm_e200_63 {sc : lm_H} {d : Nat} {x0 : Nat} {s0 : Int32} {s1 : Nat} {σ : lm_S} {r : Except Nat lm_R × lm_S} (h : lm_q200_63 sc (lm_cal sc d) (lm_rn sc d lm_m200.2.2.2.2.1 (lm_reg lm_m200.2.2.2.2.2)) x0 s0 s1 σ = some r) : lm_rn sc d lm_m200.2.2.2.2.1 (lm_reg lm_m200.2.2.2.2.2) (63, [(0, .ref x0)], [.int s0, .ref s1]) σ = some r := lm_rn_of h
/-- LatticeSuite$Sha256.start, from 0 on -/
noncomputable def lm_q201_0 (sc : lm_H) (A : Nat → List Value → lm_M lm_R) (B : lm_F → lm_M lm_R) (x0 : Nat) (x1 : Int32) : lm_M lm_R :=
  B (2, [(0, .ref x0), (1, .int x1), (2, .int (Int32.ofInt 0))], [])
set_option maxRecDepth 100000 in
theorem lm_e201_0 {sc : lm_H} {d : Nat} {x0 : Nat} {x1 : Int32} {σ : lm_S} {r : Except Nat lm_R × lm_S} (h : lm_q201_0 sc (lm_cal sc d) (lm_rn sc d lm_m201.2.2.2.2.1 (lm_reg lm_m201.2.2.2.2.2)) x0 x1  σ = some r) : lm_rn sc d lm_m201.2.2.2.2.1 (lm_reg lm_m201.2.2.2.2.2) (0, [(0, .ref x0), (1, .int x1)], []) σ = some r := lm_rn_of h
/-- LatticeSuite$Sha256.start, from 2 on -/
noncomputable def lm_q201_2 (sc : lm_H) (A : Nat → List Value → lm_M lm_R) (B : lm_F → lm_M lm_R) (x0 : Nat) (x1 : Int32) (x2 : Int32) : lm_M lm_R :=
  lm_if .ge x2 (Int32.ofInt 8) (lm_bind (lm_sel [(6, 275)] (some (.ref x0))) fun y1 =>
  lm_bind (lm_asV (A y1 [.ref x0])) fun _ =>
  lm_ret none) (lm_if .ne x1 (Int32.ofInt 4) (B (24, [(0, .ref x0), (1, .int x1), (2, .int x2)], [.int x2, .ref (lm_B + 2)])) (B (24, [(0, .ref x0), (1, .int x1), (2, .int x2)], [.int ((Int32.ofInt 8) + x2), .ref (lm_B + 2)])))
set_option maxRecDepth 100000 in
theorem lm_e201_2 {sc : lm_H} {d : Nat} {x0 : Nat} {x1 : Int32} {x2 : Int32} {σ : lm_S} {r : Except Nat lm_R × lm_S} (h : lm_q201_2 sc (lm_cal sc d) (lm_rn sc d lm_m201.2.2.2.2.1 (lm_reg lm_m201.2.2.2.2.2)) x0 x1 x2  σ = some r) : lm_rn sc d lm_m201.2.2.2.2.1 (lm_reg lm_m201.2.2.2.2.2) (2, [(0, .ref x0), (1, .int x1), (2, .int x2)], []) σ = some r := lm_rn_of h
/-- LatticeSuite$Sha256.start, from 24 on -/
noncomputable def lm_q201_24 (sc : lm_H) (A : Nat → List Value → lm_M lm_R) (B : lm_F → lm_M lm_R) (x0 : Nat) (x1 : Int32) (x2 : Int32) (s0 : Int32) (s1 : Nat) : lm_M lm_R :=
  lm_bind (lm_lald sc s1 s0) fun v1 =>
  lm_bind (lm_gR 2430 x0) fun v2 =>
  lm_if .ne x1 (Int32.ofInt 4) (B (44, [(0, .ref x0), (1, .int x1), (2, .int x2)], [.long (lm_uL v1 (Int32.ofInt 32)), .int x2, .ref v2])) (B (44, [(0, .ref x0), (1, .int x1), (2, .int x2)], [.long v1, .int x2, .ref v2]))
set_option maxRecDepth 100000 in
theorem lm_e201_24 {sc : lm_H} {d : Nat} {x0 : Nat} {x1 : Int32} {x2 : Int32} {s0 : Int32} {s1 : Nat} {σ : lm_S} {r : Except Nat lm_R × lm_S} (h : lm_q201_24 sc (lm_cal sc d) (lm_rn sc d lm_m201.2.2.2.2.1 (lm_reg lm_m201.2.2.2.2.2)) x0 x1 x2 s0 s1 σ = some r) : lm_rn sc d lm_m201.2.2.2.2.1 (lm_reg lm_m201.2.2.2.2.2) (24, [(0, .ref x0), (1, .int x1), (2, .int x2)], [.int s0, .ref s1]) σ = some r := lm_rn_of h
/-- LatticeSuite$Sha256.start, from 44 on -/
noncomputable def lm_q201_44 (sc : lm_H) (A : Nat → List Value → lm_M lm_R) (B : lm_F → lm_M lm_R) (x0 : Nat) (x1 : Int32) (x2 : Int32) (s0 : Int64) (s1 : Int32) (s2 : Nat) : lm_M lm_R :=
  lm_bind (lm_iast s2 s1 (Int64.toInt32 s0)) fun _ =>
  B (2, [(0, .ref x0), (1, .int x1), (2, .int (x2 + Int32.ofInt 1))], [])
set_option maxRecDepth 100000 in
theorem lm_e201_44 {sc : lm_H} {d : Nat} {x0 : Nat} {x1 : Int32} {x2 : Int32} {s0 : Int64} {s1 : Int32} {s2 : Nat} {σ : lm_S} {r : Except Nat lm_R × lm_S} (h : lm_q201_44 sc (lm_cal sc d) (lm_rn sc d lm_m201.2.2.2.2.1 (lm_reg lm_m201.2.2.2.2.2)) x0 x1 x2 s0 s1 s2 σ = some r) : lm_rn sc d lm_m201.2.2.2.2.1 (lm_reg lm_m201.2.2.2.2.2) (44, [(0, .ref x0), (1, .int x1), (2, .int x2)], [.long s0, .int s1, .ref s2]) σ = some r := lm_rn_of h
/-- LatticeSuite$Sha512.start, from 0 on -/
noncomputable def lm_q202_0 (sc : lm_H) (A : Nat → List Value → lm_M lm_R) (B : lm_F → lm_M lm_R) (x0 : Nat) (x1 : Int32) : lm_M lm_R :=
  lm_if .ne x1 (Int32.ofInt 5) (lm_if .ne x1 (Int32.ofInt 6) (lm_if .ne x1 (Int32.ofInt 2) (B (59, [(0, .ref x0)], [.int (Int32.ofInt 0), .ref (lm_B + 2)])) (B (59, [(0, .ref x0)], [.int (Int32.ofInt 8), .ref (lm_B + 2)]))) (lm_bind (lm_gR 2830 x0) fun v1 =>
  lm_bind (lm_copy sc (lm_B + 4) (Int32.ofInt 0) v1 (Int32.ofInt 0) (Int32.ofInt 8)) fun _ =>
  lm_bind (lm_sel [(7, 275)] (some (.ref x0))) fun y2 =>
  lm_bind (lm_asV (A y2 [.ref x0])) fun _ =>
  lm_ret none)) (lm_bind (lm_gR 2830 x0) fun v3 =>
  lm_bind (lm_copy sc (lm_B + 3) (Int32.ofInt 0) v3 (Int32.ofInt 0) (Int32.ofInt 8)) fun _ =>
  lm_bind (lm_sel [(7, 275)] (some (.ref x0))) fun y4 =>
  lm_bind (lm_asV (A y4 [.ref x0])) fun _ =>
  lm_ret none)
set_option maxRecDepth 100000 in
theorem lm_e202_0 {sc : lm_H} {d : Nat} {x0 : Nat} {x1 : Int32} {σ : lm_S} {r : Except Nat lm_R × lm_S} (h : lm_q202_0 sc (lm_cal sc d) (lm_rn sc d lm_m202.2.2.2.2.1 (lm_reg lm_m202.2.2.2.2.2)) x0 x1  σ = some r) : lm_rn sc d lm_m202.2.2.2.2.1 (lm_reg lm_m202.2.2.2.2.2) (0, [(0, .ref x0), (1, .int x1)], []) σ = some r := lm_rn_of h
/-- LatticeSuite$Sha512.start, from 59 on -/
noncomputable def lm_q202_59 (sc : lm_H) (A : Nat → List Value → lm_M lm_R) (B : lm_F → lm_M lm_R) (x0 : Nat) (s0 : Int32) (s1 : Nat) : lm_M lm_R :=
  lm_bind (lm_gR 2830 x0) fun v1 =>
  lm_bind (lm_copy sc s1 s0 v1 (Int32.ofInt 0) (Int32.ofInt 8)) fun _ =>
  lm_bind (lm_sel [(7, 275)] (some (.ref x0))) fun y2 =>
  lm_bind (lm_asV (A y2 [.ref x0])) fun _ =>
  lm_ret none
set_option maxRecDepth 100000 in
theorem lm_e202_59 {sc : lm_H} {d : Nat} {x0 : Nat} {s0 : Int32} {s1 : Nat} {σ : lm_S} {r : Except Nat lm_R × lm_S} (h : lm_q202_59 sc (lm_cal sc d) (lm_rn sc d lm_m202.2.2.2.2.1 (lm_reg lm_m202.2.2.2.2.2)) x0 s0 s1 σ = some r) : lm_rn sc d lm_m202.2.2.2.2.1 (lm_reg lm_m202.2.2.2.2.2) (59, [(0, .ref x0)], [.int s0, .ref s1]) σ = some r := lm_rn_of h
/-- LatticeSuite$Hashes.changeKey, from 0 on -/
noncomputable def lm_q203_0 (sc : lm_H) (A : Nat → List Value → lm_M lm_R) (B : lm_F → lm_M lm_R) (x0 : Nat) (x1 : Int32) : lm_M lm_R :=
  B (2, [(0, .ref x0), (1, .int x1), (2, .int (Int32.ofInt 0))], [])
set_option maxRecDepth 100000 in
theorem lm_e203_0 {sc : lm_H} {d : Nat} {x0 : Nat} {x1 : Int32} {σ : lm_S} {r : Except Nat lm_R × lm_S} (h : lm_q203_0 sc (lm_cal sc d) (lm_rn sc d lm_m203.2.2.2.2.1 (lm_reg lm_m203.2.2.2.2.2)) x0 x1  σ = some r) : lm_rn sc d lm_m203.2.2.2.2.1 (lm_reg lm_m203.2.2.2.2.2) (0, [(0, .ref x0), (1, .int x1)], []) σ = some r := lm_rn_of h
/-- LatticeSuite$Hashes.changeKey, from 2 on -/
noncomputable def lm_q203_2 (sc : lm_H) (A : Nat → List Value → lm_M lm_R) (B : lm_F → lm_M lm_R) (x0 : Nat) (x1 : Int32) (x2 : Int32) : lm_M lm_R :=
  lm_bind (lm_gR 814 x0) fun v1 =>
  lm_bind (lm_alen sc v1) fun v2 =>
  lm_if .ge x2 v2 (lm_ret none) (lm_bind (lm_gR 814 x0) fun v3 =>
  lm_bind (lm_bald sc v3 x2) fun v4 =>
  lm_bind (lm_bast v3 x2 (lm_b8 (v4 ^^^ (lm_b8 x1)))) fun _ =>
  B (2, [(0, .ref x0), (1, .int x1), (2, .int (x2 + Int32.ofInt 1))], []))
set_option maxRecDepth 100000 in
theorem lm_e203_2 {sc : lm_H} {d : Nat} {x0 : Nat} {x1 : Int32} {x2 : Int32} {σ : lm_S} {r : Except Nat lm_R × lm_S} (h : lm_q203_2 sc (lm_cal sc d) (lm_rn sc d lm_m203.2.2.2.2.1 (lm_reg lm_m203.2.2.2.2.2)) x0 x1 x2  σ = some r) : lm_rn sc d lm_m203.2.2.2.2.1 (lm_reg lm_m203.2.2.2.2.2) (2, [(0, .ref x0), (1, .int x1), (2, .int x2)], []) σ = some r := lm_rn_of h
/-- LatticeSuite$Hashes.of, from 0 on -/
noncomputable def lm_q204_0 (sc : lm_H) (A : Nat → List Value → lm_M lm_R) (B : lm_F → lm_M lm_R) (x0 : Nat) (x1 : Int32) : lm_M lm_R :=
  lm_if .eq x1 (Int32.ofInt 1) (lm_bind (lm_gR 806 x0) fun v1 =>
  lm_ret (some (.ref v1))) (lm_if .ne x1 (Int32.ofInt 4) (lm_if .gt x1 (Int32.ofInt 6) (lm_bind (lm_gR 802 x0) fun v2 =>
  lm_ret (some (.ref v2))) (lm_bind (lm_gR 810 x0) fun v3 =>
  lm_ret (some (.ref v3)))) (lm_bind (lm_gR 806 x0) fun v4 =>
  lm_ret (some (.ref v4))))
set_option maxRecDepth 100000 in
theorem lm_e204_0 {sc : lm_H} {d : Nat} {x0 : Nat} {x1 : Int32} {σ : lm_S} {r : Except Nat lm_R × lm_S} (h : lm_q204_0 sc (lm_cal sc d) (lm_rn sc d lm_m204.2.2.2.2.1 (lm_reg lm_m204.2.2.2.2.2)) x0 x1  σ = some r) : lm_rn sc d lm_m204.2.2.2.2.1 (lm_reg lm_m204.2.2.2.2.2) (0, [(0, .ref x0), (1, .int x1)], []) σ = some r := lm_rn_of h
/-- java/lang/Math.min, from 0 on -/
noncomputable def lm_q205_0 (sc : lm_H) (A : Nat → List Value → lm_M lm_R) (B : lm_F → lm_M lm_R) (x0 : Int32) (x1 : Int32) : lm_M lm_R :=
  lm_if .gt x0 x1 (lm_ret (some (.int x1))) (lm_ret (some (.int x0)))
set_option maxRecDepth 100000 in
theorem lm_e205_0 {sc : lm_H} {d : Nat} {x0 : Int32} {x1 : Int32} {σ : lm_S} {r : Except Nat lm_R × lm_S} (h : lm_q205_0 sc (lm_cal sc d) (lm_rn sc d lm_m205.2.2.2.2.1 (lm_reg lm_m205.2.2.2.2.2)) x0 x1  σ = some r) : lm_rn sc d lm_m205.2.2.2.2.1 (lm_reg lm_m205.2.2.2.2.2) (0, [(0, .int x0), (1, .int x1)], []) σ = some r := lm_rn_of h
/-- LatticeSuite$Sponge.takeBlock, from 0 on -/
noncomputable def lm_q206_0 (sc : lm_H) (A : Nat → List Value → lm_M lm_R) (B : lm_F → lm_M lm_R) (x0 : Nat) : lm_M lm_R :=
  B (2, [(0, .ref x0), (1, .int (Int32.ofInt 0))], [])
set_option maxRecDepth 100000 in
theorem lm_e206_0 {sc : lm_H} {d : Nat} {x0 : Nat} {σ : lm_S} {r : Except Nat lm_R × lm_S} (h : lm_q206_0 sc (lm_cal sc d) (lm_rn sc d lm_m206.2.2.2.2.1 (lm_reg lm_m206.2.2.2.2.2)) x0  σ = some r) : lm_rn sc d lm_m206.2.2.2.2.1 (lm_reg lm_m206.2.2.2.2.2) (0, [(0, .ref x0)], []) σ = some r := lm_rn_of h
/-- LatticeSuite$Sponge.takeBlock, from 2 on -/
noncomputable def lm_q206_2 (sc : lm_H) (A : Nat → List Value → lm_M lm_R) (B : lm_F → lm_M lm_R) (x0 : Nat) (x1 : Int32) : lm_M lm_R :=
  lm_bind (lm_gI 2004 x0) fun v1 =>
  lm_if .ge ((Int32.ofInt 8) * x1) v1 (lm_bind (lm_sel [(5, 212)] (some (.ref x0))) fun y2 =>
  lm_bind (lm_asV (A y2 [.ref x0])) fun _ =>
  lm_ret none) (B (24, [(0, .ref x0), (1, .int x1), (2, .long (Int64.ofNat 0)), (4, .int (((Int32.ofInt 8) * x1) + (Int32.ofInt 7)))], []))
set_option maxRecDepth 100000 in
theorem lm_e206_2 {sc : lm_H} {d : Nat} {x0 : Nat} {x1 : Int32} {σ : lm_S} {r : Except Nat lm_R × lm_S} (h : lm_q206_2 sc (lm_cal sc d) (lm_rn sc d lm_m206.2.2.2.2.1 (lm_reg lm_m206.2.2.2.2.2)) x0 x1  σ = some r) : lm_rn sc d lm_m206.2.2.2.2.1 (lm_reg lm_m206.2.2.2.2.2) (2, [(0, .ref x0), (1, .int x1)], []) σ = some r := lm_rn_of h
/-- LatticeSuite$Sponge.takeBlock, from 24 on -/
noncomputable def lm_q206_24 (sc : lm_H) (A : Nat → List Value → lm_M lm_R) (B : lm_F → lm_M lm_R) (x0 : Nat) (x1 : Int32) (x2 : Int64) (x4 : Int32) : lm_M lm_R :=
  lm_if .lt x4 ((Int32.ofInt 8) * x1) (lm_bind (lm_gR 2030 x0) fun v1 =>
  lm_bind (lm_lald sc v1 x1) fun v2 =>
  lm_bind (lm_last v1 x1 (v2 ^^^ x2)) fun _ =>
  B (2, [(0, .ref x0), (1, .int (x1 + Int32.ofInt 1))], [])) (lm_bind (lm_gR 2002 x0) fun v3 =>
  lm_bind (lm_bald sc v3 x4) fun v4 =>
  B (24, [(0, .ref x0), (1, .int x1), (2, .long ((x2 <<< ((Int32.toInt64 (Int32.ofInt 8)) &&& 63)) ||| (Int32.toInt64 (v4 &&& (Int32.ofInt 255))))), (4, .int (x4 + Int32.ofInt (-1)))], []))
set_option maxRecDepth 100000 in
theorem lm_e206_24 {sc : lm_H} {d : Nat} {x0 : Nat} {x1 : Int32} {x2 : Int64} {x4 : Int32} {σ : lm_S} {r : Except Nat lm_R × lm_S} (h : lm_q206_24 sc (lm_cal sc d) (lm_rn sc d lm_m206.2.2.2.2.1 (lm_reg lm_m206.2.2.2.2.2)) x0 x1 x2 x4  σ = some r) : lm_rn sc d lm_m206.2.2.2.2.1 (lm_reg lm_m206.2.2.2.2.2) (24, [(0, .ref x0), (1, .int x1), (2, .long x2), (4, .int x4)], []) σ = some r := lm_rn_of h
/-- LatticeSuite$Sha256.takeBlock, from 0 on -/
noncomputable def lm_q207_0 (sc : lm_H) (A : Nat → List Value → lm_M lm_R) (B : lm_F → lm_M lm_R) (x0 : Nat) : lm_M lm_R :=
  lm_bind (lm_gR 2438 x0) fun v1 =>
  B (9, [(0, .ref x0), (1, .ref v1), (2, .int (Int32.ofInt 0)), (3, .int (Int32.ofInt 0))], [])
set_option maxRecDepth 100000 in
theorem lm_e207_0 {sc : lm_H} {d : Nat} {x0 : Nat} {σ : lm_S} {r : Except Nat lm_R × lm_S} (h : lm_q207_0 sc (lm_cal sc d) (lm_rn sc d lm_m207.2.2.2.2.1 (lm_reg lm_m207.2.2.2.2.2)) x0  σ = some r) : lm_rn sc d lm_m207.2.2.2.2.1 (lm_reg lm_m207.2.2.2.2.2) (0, [(0, .ref x0)], []) σ = some r := lm_rn_of h
/-- LatticeSuite$Sha256.takeBlock, from 9 on -/
noncomputable def lm_q207_9 (sc : lm_H) (A : Nat → List Value → lm_M lm_R) (B : lm_F → lm_M lm_R) (x0 : Nat) (x1 : Nat) (x2 : Int32) (x3 : Int32) : lm_M lm_R :=
  lm_if .ge x2 (Int32.ofInt 16) (B (84, [(0, .ref x0), (1, .ref x1), (2, .int (Int32.ofInt 16))], [])) (lm_bind (lm_gR 2402 x0) fun v1 =>
  lm_bind (lm_bald sc v1 x3) fun v2 =>
  lm_bind (lm_gR 2402 x0) fun v3 =>
  lm_bind (lm_bald sc v3 (x3 + (Int32.ofInt 1))) fun v4 =>
  lm_bind (lm_gR 2402 x0) fun v5 =>
  lm_bind (lm_bald sc v5 (x3 + (Int32.ofInt 2))) fun v6 =>
  lm_bind (lm_gR 2402 x0) fun v7 =>
  lm_bind (lm_bald sc v7 (x3 + (Int32.ofInt 3))) fun v8 =>
  lm_bind (lm_iast x1 x2 ((((v2 <<< ((Int32.ofInt 24) &&& 31)) ||| ((v4 &&& (Int32.ofInt 255)) <<< ((Int32.ofInt 16) &&& 31))) ||| ((v6 &&& (Int32.ofInt 255)) <<< ((Int32.ofInt 8) &&& 31))) ||| (v8 &&& (Int32.ofInt 255)))) fun _ =>
  B (9, [(0, .ref x0), (1, .ref x1), (2, .int (x2 + Int32.ofInt 1)), (3, .int (x3 + Int32.ofInt 4))], []))
set_option maxRecDepth 100000 in
theorem lm_e207_9 {sc : lm_H} {d : Nat} {x0 : Nat} {x1 : Nat} {x2 : Int32} {x3 : Int32} {σ : lm_S} {r : Except Nat lm_R × lm_S} (h : lm_q207_9 sc (lm_cal sc d) (lm_rn sc d lm_m207.2.2.2.2.1 (lm_reg lm_m207.2.2.2.2.2)) x0 x1 x2 x3  σ = some r) : lm_rn sc d lm_m207.2.2.2.2.1 (lm_reg lm_m207.2.2.2.2.2) (9, [(0, .ref x0), (1, .ref x1), (2, .int x2), (3, .int x3)], []) σ = some r := lm_rn_of h
/-- LatticeSuite$Sha256.takeBlock, from 84 on -/
noncomputable def lm_q207_84 (sc : lm_H) (A : Nat → List Value → lm_M lm_R) (B : lm_F → lm_M lm_R) (x0 : Nat) (x1 : Nat) (x2 : Int32) : lm_M lm_R :=
  lm_if .ge x2 (Int32.ofInt 64) (lm_bind (lm_gR 2430 x0) fun v1 =>
  lm_bind (lm_iald sc v1 (Int32.ofInt 0)) fun v2 =>
  lm_bind (lm_gR 2430 x0) fun v3 =>
  lm_bind (lm_iald sc v3 (Int32.ofInt 1)) fun v4 =>
  lm_bind (lm_gR 2430 x0) fun v5 =>
  lm_bind (lm_iald sc v5 (Int32.ofInt 2)) fun v6 =>
  lm_bind (lm_gR 2430 x0) fun v7 =>
  lm_bind (lm_iald sc v7 (Int32.ofInt 3)) fun v8 =>
  lm_bind (lm_gR 2430 x0) fun v9 =>
  lm_bind (lm_iald sc v9 (Int32.ofInt 4)) fun v10 =>
  lm_bind (lm_gR 2430 x0) fun v11 =>
  lm_bind (lm_iald sc v11 (Int32.ofInt 5)) fun v12 =>
  lm_bind (lm_gR 2430 x0) fun v13 =>
  lm_bind (lm_iald sc v13 (Int32.ofInt 6)) fun v14 =>
  lm_bind (lm_gR 2430 x0) fun v15 =>
  lm_bind (lm_iald sc v15 (Int32.ofInt 7)) fun v16 =>
  B (233, [(0, .ref x0), (1, .ref x1), (2, .int v2), (3, .int v4), (4, .int v6), (5, .int v8), (6, .int v10), (7, .int v12), (8, .int v14), (9, .int v16), (10, .int (Int32.ofInt 0))], [])) (lm_bind (lm_iald sc x1 (x2 - (Int32.ofInt 2))) fun v17 =>
  lm_bind (lm_iald sc x1 (x2 - (Int32.ofInt 15))) fun v18 =>
  lm_bind (lm_asI (A 276 [.int v17, .int (Int32.ofInt 17)])) fun v19 =>
  lm_bind (lm_asI (A 276 [.int v17, .int (Int32.ofInt 19)])) fun v20 =>
  lm_bind (lm_iald sc x1 (x2 - (Int32.ofInt 7))) fun v21 =>
  lm_bind (lm_asI (A 276 [.int v18, .int (Int32.ofInt 7)])) fun v22 =>
  lm_bind (lm_asI (A 276 [.int v18, .int (Int32.ofInt 18)])) fun v23 =>
  lm_bind (lm_iald sc x1 (x2 - (Int32.ofInt 16))) fun v24 =>
  lm_bind (lm_iast x1 x2 (((((v19 ^^^ v20) ^^^ (lm_us v17 (Int32.ofInt 10))) + v21) + ((v22 ^^^ v23) ^^^ (lm_us v18 (Int32.ofInt 3)))) + v24)) fun _ =>
  B (84, [(0, .ref x0), (1, .ref x1), (2, .int (x2 + Int32.ofInt 1))], []))
set_option maxRecDepth 100000 in
theorem lm_e207_84 {sc : lm_H} {d : Nat} {x0 : Nat} {x1 : Nat} {x2 : Int32} {σ : lm_S} {r : Except Nat lm_R × lm_S} (h : lm_q207_84 sc (lm_cal sc d) (lm_rn sc d lm_m207.2.2.2.2.1 (lm_reg lm_m207.2.2.2.2.2)) x0 x1 x2  σ = some r) : lm_rn sc d lm_m207.2.2.2.2.1 (lm_reg lm_m207.2.2.2.2.2) (84, [(0, .ref x0), (1, .ref x1), (2, .int x2)], []) σ = some r := lm_rn_of h
/-- LatticeSuite$Sha256.takeBlock, from 233 on -/
noncomputable def lm_q207_233 (sc : lm_H) (A : Nat → List Value → lm_M lm_R) (B : lm_F → lm_M lm_R) (x0 : Nat) (x1 : Nat) (x2 : Int32) (x3 : Int32) (x4 : Int32) (x5 : Int32) (x6 : Int32) (x7 : Int32) (x8 : Int32) (x9 : Int32) (x10 : Int32) : lm_M lm_R :=
  lm_if .ge x10 (Int32.ofInt 64) (lm_bind (lm_gR 2430 x0) fun v1 =>
  lm_bind (lm_iald sc v1 (Int32.ofInt 0)) fun v2 =>
  lm_bind (lm_iast v1 (Int32.ofInt 0) (v2 + x2)) fun _ =>
  lm_bind (lm_gR 2430 x0) fun v3 =>
  lm_bind (lm_iald sc v3 (Int32.ofInt 1)) fun v4 =>
  lm_bind (lm_iast v3 (Int32.ofInt 1) (v4 + x3)) fun _ =>
  lm_bind (lm_gR 2430 x0) fun v5 =>
  lm_bind (lm_iald sc v5 (Int32.ofInt 2)) fun v6 =>
  lm_bind (lm_iast v5 (Int32.ofInt 2) (v6 + x4)) fun _ =>
  lm_bind (lm_gR 2430 x0) fun v7 =>
  lm_bind (lm_iald sc v7 (Int32.ofInt 3)) fun v8 =>
  lm_bind (lm_iast v7 (Int32.ofInt 3) (v8 + x5)) fun _ =>
  lm_bind (lm_gR 2430 x0) fun v9 =>
  lm_bind (lm_iald sc v9 (Int32.ofInt 4)) fun v10 =>
  lm_bind (lm_iast v9 (Int32.ofInt 4) (v10 + x6)) fun _ =>
  lm_bind (lm_gR 2430 x0) fun v11 =>
  lm_bind (lm_iald sc v11 (Int32.ofInt 5)) fun v12 =>
  lm_bind (lm_iast v11 (Int32.ofInt 5) (v12 + x7)) fun _ =>
  lm_bind (lm_gR 2430 x0) fun v13 =>
  lm_bind (lm_iald sc v13 (Int32.ofInt 6)) fun v14 =>
  lm_bind (lm_iast v13 (Int32.ofInt 6) (v14 + x8)) fun _ =>
  lm_bind (lm_gR 2430 x0) fun v15 =>
  lm_bind (lm_iald sc v15 (Int32.ofInt 7)) fun v16 =>
  lm_bind (lm_iast v15 (Int32.ofInt 7) (v16 + x9)) fun _ =>
  lm_ret none) (lm_bind (lm_lald sc (lm_B + 5) x10) fun v17 =>
  lm_bind (lm_iald sc x1 x10) fun v18 =>
  lm_bind (lm_asI (A 276 [.int x6, .int (Int32.ofInt 6)])) fun v19 =>
  lm_bind (lm_asI (A 276 [.int x6, .int (Int32.ofInt 11)])) fun v20 =>
  lm_bind (lm_asI (A 276 [.int x6, .int (Int32.ofInt 25)])) fun v21 =>
  lm_bind (lm_asI (A 276 [.int x2, .int (Int32.ofInt 2)])) fun v22 =>
  lm_bind (lm_asI (A 276 [.int x2, .int (Int32.ofInt 13)])) fun v23 =>
  lm_bind (lm_asI (A 276 [.int x2, .int (Int32.ofInt 22)])) fun v24 =>
  B (233, [(0, .ref x0), (1, .ref x1), (2, .int (((((x9 + ((x6 &&& x7) ^^^ ((x6 ^^^ (Int32.ofInt (-1))) &&& x8))) + (Int64.toInt32 (lm_uL v17 (Int32.ofInt 32)))) + v18) + ((v19 ^^^ v20) ^^^ v21)) + ((((x2 &&& x3) ^^^ (x2 &&& x4)) ^^^ (x3 &&& x4)) + ((v22 ^^^ v23) ^^^ v24)))), (3, .int x2), (4, .int x3), (5, .int x4), (6, .int (x5 + ((((x9 + ((x6 &&& x7) ^^^ ((x6 ^^^ (Int32.ofInt (-1))) &&& x8))) + (Int64.toInt32 (lm_uL v17 (Int32.ofInt 32)))) + v18) + ((v19 ^^^ v20) ^^^ v21)))), (7, .int x6), (8, .int x7), (9, .int x8), (10, .int (x10 + Int32.ofInt 1))], []))
set_option maxRecDepth 100000 in
theorem lm_e207_233 {sc : lm_H} {d : Nat} {x0 : Nat} {x1 : Nat} {x2 : Int32} {x3 : Int32} {x4 : Int32} {x5 : Int32} {x6 : Int32} {x7 : Int32} {x8 : Int32} {x9 : Int32} {x10 : Int32} {σ : lm_S} {r : Except Nat lm_R × lm_S} (h : lm_q207_233 sc (lm_cal sc d) (lm_rn sc d lm_m207.2.2.2.2.1 (lm_reg lm_m207.2.2.2.2.2)) x0 x1 x2 x3 x4 x5 x6 x7 x8 x9 x10  σ = some r) : lm_rn sc d lm_m207.2.2.2.2.1 (lm_reg lm_m207.2.2.2.2.2) (233, [(0, .ref x0), (1, .ref x1), (2, .int x2), (3, .int x3), (4, .int x4), (5, .int x5), (6, .int x6), (7, .int x7), (8, .int x8), (9, .int x9), (10, .int x10)], []) σ = some r := lm_rn_of h
/-- LatticeSuite$Sha512.takeBlock, from 0 on -/
noncomputable def lm_q208_0 (sc : lm_H) (A : Nat → List Value → lm_M lm_R) (B : lm_F → lm_M lm_R) (x0 : Nat) : lm_M lm_R :=
  lm_bind (lm_gR 2838 x0) fun v1 =>
  B (7, [(0, .ref x0), (1, .ref v1), (2, .int (Int32.ofInt 0))], [])
set_option maxRecDepth 100000 in
theorem lm_e208_0 {sc : lm_H} {d : Nat} {x0 : Nat} {σ : lm_S} {r : Except Nat lm_R × lm_S} (h : lm_q208_0 sc (lm_cal sc d) (lm_rn sc d lm_m208.2.2.2.2.1 (lm_reg lm_m208.2.2.2.2.2)) x0  σ = some r) : lm_rn sc d lm_m208.2.2.2.2.1 (lm_reg lm_m208.2.2.2.2.2) (0, [(0, .ref x0)], []) σ = some r := lm_rn_of h
/-- LatticeSuite$Sha512.takeBlock, from 7 on -/
noncomputable def lm_q208_7 (sc : lm_H) (A : Nat → List Value → lm_M lm_R) (B : lm_F → lm_M lm_R) (x0 : Nat) (x1 : Nat) (x2 : Int32) : lm_M lm_R :=
  lm_if .ge x2 (Int32.ofInt 16) (B (70, [(0, .ref x0), (1, .ref x1), (2, .int (Int32.ofInt 16))], [])) (B (21, [(0, .ref x0), (1, .ref x1), (2, .int x2), (3, .long (Int64.ofNat 0)), (5, .int ((Int32.ofInt 8) * x2))], []))
set_option maxRecDepth 100000 in
theorem lm_e208_7 {sc : lm_H} {d : Nat} {x0 : Nat} {x1 : Nat} {x2 : Int32} {σ : lm_S} {r : Except Nat lm_R × lm_S} (h : lm_q208_7 sc (lm_cal sc d) (lm_rn sc d lm_m208.2.2.2.2.1 (lm_reg lm_m208.2.2.2.2.2)) x0 x1 x2  σ = some r) : lm_rn sc d lm_m208.2.2.2.2.1 (lm_reg lm_m208.2.2.2.2.2) (7, [(0, .ref x0), (1, .ref x1), (2, .int x2)], []) σ = some r := lm_rn_of h
/-- LatticeSuite$Sha512.takeBlock, from 70 on -/
noncomputable def lm_q208_70 (sc : lm_H) (A : Nat → List Value → lm_M lm_R) (B : lm_F → lm_M lm_R) (x0 : Nat) (x1 : Nat) (x2 : Int32) : lm_M lm_R :=
  lm_if .ge x2 (Int32.ofInt 80) (lm_bind (lm_gR 2830 x0) fun v1 =>
  lm_bind (lm_lald sc v1 (Int32.ofInt 0)) fun v2 =>
  lm_bind (lm_gR 2830 x0) fun v3 =>
  lm_bind (lm_lald sc v3 (Int32.ofInt 1)) fun v4 =>
  lm_bind (lm_gR 2830 x0) fun v5 =>
  lm_bind (lm_lald sc v5 (Int32.ofInt 2)) fun v6 =>
  lm_bind (lm_gR 2830 x0) fun v7 =>
  lm_bind (lm_lald sc v7 (Int32.ofInt 3)) fun v8 =>
  lm_bind (lm_gR 2830 x0) fun v9 =>
  lm_bind (lm_lald sc v9 (Int32.ofInt 4)) fun v10 =>
  lm_bind (lm_gR 2830 x0) fun v11 =>
  lm_bind (lm_lald sc v11 (Int32.ofInt 5)) fun v12 =>
  lm_bind (lm_gR 2830 x0) fun v13 =>
  lm_bind (lm_lald sc v13 (Int32.ofInt 6)) fun v14 =>
  lm_bind (lm_gR 2830 x0) fun v15 =>
  lm_bind (lm_lald sc v15 (Int32.ofInt 7)) fun v16 =>
  B (220, [(0, .ref x0), (1, .ref x1), (2, .long v2), (4, .long v4), (6, .long v6), (8, .long v8), (10, .long v10), (12, .long v12), (14, .long v14), (16, .long v16), (18, .int (Int32.ofInt 0))], [])) (lm_bind (lm_lald sc x1 (x2 - (Int32.ofInt 2))) fun v17 =>
  lm_bind (lm_lald sc x1 (x2 - (Int32.ofInt 15))) fun v18 =>
  lm_bind (lm_asL (A 277 [.long v17, .int (Int32.ofInt 19)])) fun v19 =>
  lm_bind (lm_asL (A 277 [.long v17, .int (Int32.ofInt 61)])) fun v20 =>
  lm_bind (lm_lald sc x1 (x2 - (Int32.ofInt 7))) fun v21 =>
  lm_bind (lm_asL (A 277 [.long v18, .int (Int32.ofInt 1)])) fun v22 =>
  lm_bind (lm_asL (A 277 [.long v18, .int (Int32.ofInt 8)])) fun v23 =>
  lm_bind (lm_lald sc x1 (x2 - (Int32.ofInt 16))) fun v24 =>
  lm_bind (lm_last x1 x2 (((((v19 ^^^ v20) ^^^ (lm_uL v17 (Int32.ofInt 6))) + v21) + ((v22 ^^^ v23) ^^^ (lm_uL v18 (Int32.ofInt 7)))) + v24)) fun _ =>
  B (70, [(0, .ref x0), (1, .ref x1), (2, .int (x2 + Int32.ofInt 1))], []))
set_option maxRecDepth 100000 in
theorem lm_e208_70 {sc : lm_H} {d : Nat} {x0 : Nat} {x1 : Nat} {x2 : Int32} {σ : lm_S} {r : Except Nat lm_R × lm_S} (h : lm_q208_70 sc (lm_cal sc d) (lm_rn sc d lm_m208.2.2.2.2.1 (lm_reg lm_m208.2.2.2.2.2)) x0 x1 x2  σ = some r) : lm_rn sc d lm_m208.2.2.2.2.1 (lm_reg lm_m208.2.2.2.2.2) (70, [(0, .ref x0), (1, .ref x1), (2, .int x2)], []) σ = some r := lm_rn_of h
/-- LatticeSuite$Sha512.takeBlock, from 21 on -/
noncomputable def lm_q208_21 (sc : lm_H) (A : Nat → List Value → lm_M lm_R) (B : lm_F → lm_M lm_R) (x0 : Nat) (x1 : Nat) (x2 : Int32) (x3 : Int64) (x5 : Int32) : lm_M lm_R :=
  lm_if .ge x5 (((Int32.ofInt 8) * x2) + (Int32.ofInt 8)) (lm_bind (lm_last x1 x2 x3) fun _ =>
  B (7, [(0, .ref x0), (1, .ref x1), (2, .int (x2 + Int32.ofInt 1))], [])) (lm_bind (lm_gR 2802 x0) fun v1 =>
  lm_bind (lm_bald sc v1 x5) fun v2 =>
  B (21, [(0, .ref x0), (1, .ref x1), (2, .int x2), (3, .long ((x3 <<< ((Int32.toInt64 (Int32.ofInt 8)) &&& 63)) ||| (Int32.toInt64 (v2 &&& (Int32.ofInt 255))))), (5, .int (x5 + Int32.ofInt 1))], []))
set_option maxRecDepth 100000 in
theorem lm_e208_21 {sc : lm_H} {d : Nat} {x0 : Nat} {x1 : Nat} {x2 : Int32} {x3 : Int64} {x5 : Int32} {σ : lm_S} {r : Except Nat lm_R × lm_S} (h : lm_q208_21 sc (lm_cal sc d) (lm_rn sc d lm_m208.2.2.2.2.1 (lm_reg lm_m208.2.2.2.2.2)) x0 x1 x2 x3 x5  σ = some r) : lm_rn sc d lm_m208.2.2.2.2.1 (lm_reg lm_m208.2.2.2.2.2) (21, [(0, .ref x0), (1, .ref x1), (2, .int x2), (3, .long x3), (5, .int x5)], []) σ = some r := lm_rn_of h
/-- LatticeSuite$Sha512.takeBlock, from 220 on -/
noncomputable def lm_q208_220 (sc : lm_H) (A : Nat → List Value → lm_M lm_R) (B : lm_F → lm_M lm_R) (x0 : Nat) (x1 : Nat) (x2 : Int64) (x4 : Int64) (x6 : Int64) (x8 : Int64) (x10 : Int64) (x12 : Int64) (x14 : Int64) (x16 : Int64) (x18 : Int32) : lm_M lm_R :=
  lm_if .ge x18 (Int32.ofInt 80) (lm_bind (lm_gR 2830 x0) fun v1 =>
  lm_bind (lm_lald sc v1 (Int32.ofInt 0)) fun v2 =>
  lm_bind (lm_last v1 (Int32.ofInt 0) (v2 + x2)) fun _ =>
  lm_bind (lm_gR 2830 x0) fun v3 =>
  lm_bind (lm_lald sc v3 (Int32.ofInt 1)) fun v4 =>
  lm_bind (lm_last v3 (Int32.ofInt 1) (v4 + x4)) fun _ =>
  lm_bind (lm_gR 2830 x0) fun v5 =>
  lm_bind (lm_lald sc v5 (Int32.ofInt 2)) fun v6 =>
  lm_bind (lm_last v5 (Int32.ofInt 2) (v6 + x6)) fun _ =>
  lm_bind (lm_gR 2830 x0) fun v7 =>
  lm_bind (lm_lald sc v7 (Int32.ofInt 3)) fun v8 =>
  lm_bind (lm_last v7 (Int32.ofInt 3) (v8 + x8)) fun _ =>
  lm_bind (lm_gR 2830 x0) fun v9 =>
  lm_bind (lm_lald sc v9 (Int32.ofInt 4)) fun v10 =>
  lm_bind (lm_last v9 (Int32.ofInt 4) (v10 + x10)) fun _ =>
  lm_bind (lm_gR 2830 x0) fun v11 =>
  lm_bind (lm_lald sc v11 (Int32.ofInt 5)) fun v12 =>
  lm_bind (lm_last v11 (Int32.ofInt 5) (v12 + x12)) fun _ =>
  lm_bind (lm_gR 2830 x0) fun v13 =>
  lm_bind (lm_lald sc v13 (Int32.ofInt 6)) fun v14 =>
  lm_bind (lm_last v13 (Int32.ofInt 6) (v14 + x14)) fun _ =>
  lm_bind (lm_gR 2830 x0) fun v15 =>
  lm_bind (lm_lald sc v15 (Int32.ofInt 7)) fun v16 =>
  lm_bind (lm_last v15 (Int32.ofInt 7) (v16 + x16)) fun _ =>
  lm_ret none) (lm_bind (lm_lald sc (lm_B + 5) x18) fun v17 =>
  lm_bind (lm_lald sc x1 x18) fun v18 =>
  lm_bind (lm_asL (A 277 [.long x10, .int (Int32.ofInt 14)])) fun v19 =>
  lm_bind (lm_asL (A 277 [.long x10, .int (Int32.ofInt 18)])) fun v20 =>
  lm_bind (lm_asL (A 277 [.long x10, .int (Int32.ofInt 41)])) fun v21 =>
  lm_bind (lm_asL (A 277 [.long x2, .int (Int32.ofInt 28)])) fun v22 =>
  lm_bind (lm_asL (A 277 [.long x2, .int (Int32.ofInt 34)])) fun v23 =>
  lm_bind (lm_asL (A 277 [.long x2, .int (Int32.ofInt 39)])) fun v24 =>
  B (220, [(0, .ref x0), (1, .ref x1), (2, .long (((((x16 + ((x10 &&& x12) ^^^ ((x10 ^^^ (Int64.ofNat 18446744073709551615)) &&& x14))) + v17) + v18) + ((v19 ^^^ v20) ^^^ v21)) + ((((x2 &&& x4) ^^^ (x2 &&& x6)) ^^^ (x4 &&& x6)) + ((v22 ^^^ v23) ^^^ v24)))), (4, .long x2), (6, .long x4), (8, .long x6), (10, .long (x8 + ((((x16 + ((x10 &&& x12) ^^^ ((x10 ^^^ (Int64.ofNat 18446744073709551615)) &&& x14))) + v17) + v18) + ((v19 ^^^ v20) ^^^ v21)))), (12, .long x10), (14, .long x12), (16, .long x14), (18, .int (x18 + Int32.ofInt 1))], []))
set_option maxRecDepth 100000 in
theorem lm_e208_220 {sc : lm_H} {d : Nat} {x0 : Nat} {x1 : Nat} {x2 : Int64} {x4 : Int64} {x6 : Int64} {x8 : Int64} {x10 : Int64} {x12 : Int64} {x14 : Int64} {x16 : Int64} {x18 : Int32} {σ : lm_S} {r : Except Nat lm_R × lm_S} (h : lm_q208_220 sc (lm_cal sc d) (lm_rn sc d lm_m208.2.2.2.2.1 (lm_reg lm_m208.2.2.2.2.2)) x0 x1 x2 x4 x6 x8 x10 x12 x14 x16 x18  σ = some r) : lm_rn sc d lm_m208.2.2.2.2.1 (lm_reg lm_m208.2.2.2.2.2) (220, [(0, .ref x0), (1, .ref x1), (2, .long x2), (4, .long x4), (6, .long x6), (8, .long x8), (10, .long x10), (12, .long x12), (14, .long x14), (16, .long x16), (18, .int x18)], []) σ = some r := lm_rn_of h
/-- LatticeSuite$Hash.mark, from 0 on -/
noncomputable def lm_q209_0 (sc : lm_H) (A : Nat → List Value → lm_M lm_R) (B : lm_F → lm_M lm_R) (x0 : Nat) : lm_M lm_R :=
  lm_bind (lm_gR 1202 x0) fun v1 =>
  lm_bind (lm_gR 1218 x0) fun v2 =>
  lm_bind (lm_gI 1208 x0) fun v3 =>
  lm_bind (lm_copy sc v1 (Int32.ofInt 0) v2 (Int32.ofInt 0) v3) fun _ =>
  lm_bind (lm_gI 1208 x0) fun v4 =>
  lm_bind (lm_putf 1220 x0 (.int v4)) fun _ =>
  lm_bind (lm_gL 1213 x0) fun v5 =>
  lm_bind (lm_putf 1225 x0 (.long v5)) fun _ =>
  lm_bind (lm_sel [(5, 278), (6, 279), (7, 280)] (some (.ref x0))) fun y6 =>
  lm_bind (lm_asV (A y6 [.ref x0])) fun _ =>
  lm_ret none
set_option maxRecDepth 100000 in
theorem lm_e209_0 {sc : lm_H} {d : Nat} {x0 : Nat} {σ : lm_S} {r : Except Nat lm_R × lm_S} (h : lm_q209_0 sc (lm_cal sc d) (lm_rn sc d lm_m209.2.2.2.2.1 (lm_reg lm_m209.2.2.2.2.2)) x0  σ = some r) : lm_rn sc d lm_m209.2.2.2.2.1 (lm_reg lm_m209.2.2.2.2.2) (0, [(0, .ref x0)], []) σ = some r := lm_rn_of h
/-- LatticeSuite$Hash.recall, from 0 on -/
noncomputable def lm_q210_0 (sc : lm_H) (A : Nat → List Value → lm_M lm_R) (B : lm_F → lm_M lm_R) (x0 : Nat) : lm_M lm_R :=
  lm_bind (lm_gR 1218 x0) fun v1 =>
  lm_bind (lm_gR 1202 x0) fun v2 =>
  lm_bind (lm_gI 1220 x0) fun v3 =>
  lm_bind (lm_copy sc v1 (Int32.ofInt 0) v2 (Int32.ofInt 0) v3) fun _ =>
  lm_bind (lm_gI 1220 x0) fun v4 =>
  lm_bind (lm_putf 1208 x0 (.int v4)) fun _ =>
  lm_bind (lm_gL 1225 x0) fun v5 =>
  lm_bind (lm_putf 1213 x0 (.long v5)) fun _ =>
  lm_bind (lm_sel [(5, 281), (6, 282), (7, 283)] (some (.ref x0))) fun y6 =>
  lm_bind (lm_asV (A y6 [.ref x0])) fun _ =>
  lm_ret none
set_option maxRecDepth 100000 in
theorem lm_e210_0 {sc : lm_H} {d : Nat} {x0 : Nat} {σ : lm_S} {r : Except Nat lm_R × lm_S} (h : lm_q210_0 sc (lm_cal sc d) (lm_rn sc d lm_m210.2.2.2.2.1 (lm_reg lm_m210.2.2.2.2.2)) x0  σ = some r) : lm_rn sc d lm_m210.2.2.2.2.1 (lm_reg lm_m210.2.2.2.2.2) (0, [(0, .ref x0)], []) σ = some r := lm_rn_of h
/-- LatticeSuite$Sponge.give, from 0 on -/
noncomputable def lm_q211_0 (sc : lm_H) (A : Nat → List Value → lm_M lm_R) (B : lm_F → lm_M lm_R) (x0 : Nat) (x1 : Nat) (x2 : Int32) (x3 : Int32) : lm_M lm_R :=
  B (3, [(0, .ref x0), (1, .ref x1), (2, .int x2), (3, .int x3), (4, .int (Int32.ofInt 0))], [])
set_option maxRecDepth 100000 in
theorem lm_e211_0 {sc : lm_H} {d : Nat} {x0 : Nat} {x1 : Nat} {x2 : Int32} {x3 : Int32} {σ : lm_S} {r : Except Nat lm_R × lm_S} (h : lm_q211_0 sc (lm_cal sc d) (lm_rn sc d lm_m211.2.2.2.2.1 (lm_reg lm_m211.2.2.2.2.2)) x0 x1 x2 x3  σ = some r) : lm_rn sc d lm_m211.2.2.2.2.1 (lm_reg lm_m211.2.2.2.2.2) (0, [(0, .ref x0), (1, .ref x1), (2, .int x2), (3, .int x3)], []) σ = some r := lm_rn_of h
/-- LatticeSuite$Sponge.give, from 3 on -/
noncomputable def lm_q211_3 (sc : lm_H) (A : Nat → List Value → lm_M lm_R) (B : lm_F → lm_M lm_R) (x0 : Nat) (x1 : Nat) (x2 : Int32) (x3 : Int32) (x4 : Int32) : lm_M lm_R :=
  lm_if .ge x4 x3 (lm_ret none) (lm_bind (lm_gR 2030 x0) fun v1 =>
  lm_bind (lm_lald sc v1 (x4 >>> ((Int32.ofInt 3) &&& 31))) fun v2 =>
  lm_bind (lm_bast x1 (x2 + x4) (lm_b8 (Int64.toInt32 (lm_uL v2 ((x4 &&& (Int32.ofInt 7)) <<< ((Int32.ofInt 3) &&& 31)))))) fun _ =>
  B (3, [(0, .ref x0), (1, .ref x1), (2, .int x2), (3, .int x3), (4, .int (x4 + Int32.ofInt 1))], []))
set_option maxRecDepth 100000 in
theorem lm_e211_3 {sc : lm_H} {d : Nat} {x0 : Nat} {x1 : Nat} {x2 : Int32} {x3 : Int32} {x4 : Int32} {σ : lm_S} {r : Except Nat lm_R × lm_S} (h : lm_q211_3 sc (lm_cal sc d) (lm_rn sc d lm_m211.2.2.2.2.1 (lm_reg lm_m211.2.2.2.2.2)) x0 x1 x2 x3 x4  σ = some r) : lm_rn sc d lm_m211.2.2.2.2.1 (lm_reg lm_m211.2.2.2.2.2) (3, [(0, .ref x0), (1, .ref x1), (2, .int x2), (3, .int x3), (4, .int x4)], []) σ = some r := lm_rn_of h
/-- LatticeSuite$Sponge.permute, from 0 on -/
noncomputable def lm_q212_0 (sc : lm_H) (A : Nat → List Value → lm_M lm_R) (B : lm_F → lm_M lm_R) (x0 : Nat) : lm_M lm_R :=
  lm_bind (lm_gR 2030 x0) fun v1 =>
  lm_bind (lm_gR 2034 x0) fun v2 =>
  B (12, [(1, .ref v1), (2, .ref v2), (3, .int (Int32.ofInt 0))], [])
set_option maxRecDepth 100000 in
theorem lm_e212_0 {sc : lm_H} {d : Nat} {x0 : Nat} {σ : lm_S} {r : Except Nat lm_R × lm_S} (h : lm_q212_0 sc (lm_cal sc d) (lm_rn sc d lm_m212.2.2.2.2.1 (lm_reg lm_m212.2.2.2.2.2)) x0  σ = some r) : lm_rn sc d lm_m212.2.2.2.2.1 (lm_reg lm_m212.2.2.2.2.2) (0, [(0, .ref x0)], []) σ = some r := lm_rn_of h
/-- LatticeSuite$Sponge.permute, from 12 on -/
noncomputable def lm_q212_12 (sc : lm_H) (A : Nat → List Value → lm_M lm_R) (B : lm_F → lm_M lm_R) (x1 : Nat) (x2 : Nat) (x3 : Int32) : lm_M lm_R :=
  lm_if .ge x3 (Int32.ofInt 24) (lm_ret none) (lm_bind (lm_lald sc x1 (Int32.ofInt 0)) fun v1 =>
  lm_bind (lm_lald sc x1 (Int32.ofInt 5)) fun v2 =>
  lm_bind (lm_lald sc x1 (Int32.ofInt 10)) fun v3 =>
  lm_bind (lm_lald sc x1 (Int32.ofInt 15)) fun v4 =>
  lm_bind (lm_lald sc x1 (Int32.ofInt 20)) fun v5 =>
  lm_bind (lm_lald sc x1 (Int32.ofInt 1)) fun v6 =>
  lm_bind (lm_lald sc x1 (Int32.ofInt 6)) fun v7 =>
  lm_bind (lm_lald sc x1 (Int32.ofInt 11)) fun v8 =>
  lm_bind (lm_lald sc x1 (Int32.ofInt 16)) fun v9 =>
  lm_bind (lm_lald sc x1 (Int32.ofInt 21)) fun v10 =>
  lm_bind (lm_lald sc x1 (Int32.ofInt 2)) fun v11 =>
  lm_bind (lm_lald sc x1 (Int32.ofInt 7)) fun v12 =>
  lm_bind (lm_lald sc x1 (Int32.ofInt 12)) fun v13 =>
  lm_bind (lm_lald sc x1 (Int32.ofInt 17)) fun v14 =>
  lm_bind (lm_lald sc x1 (Int32.ofInt 22)) fun v15 =>
  lm_bind (lm_lald sc x1 (Int32.ofInt 3)) fun v16 =>
  lm_bind (lm_lald sc x1 (Int32.ofInt 8)) fun v17 =>
  lm_bind (lm_lald sc x1 (Int32.ofInt 13)) fun v18 =>
  lm_bind (lm_lald sc x1 (Int32.ofInt 18)) fun v19 =>
  lm_bind (lm_lald sc x1 (Int32.ofInt 23)) fun v20 =>
  lm_bind (lm_lald sc x1 (Int32.ofInt 4)) fun v21 =>
  lm_bind (lm_lald sc x1 (Int32.ofInt 9)) fun v22 =>
  lm_bind (lm_lald sc x1 (Int32.ofInt 14)) fun v23 =>
  lm_bind (lm_lald sc x1 (Int32.ofInt 19)) fun v24 =>
  lm_bind (lm_lald sc x1 (Int32.ofInt 24)) fun v25 =>
  lm_bind (lm_asL (A 284 [.long ((((v6 ^^^ v7) ^^^ v8) ^^^ v9) ^^^ v10), .int (Int32.ofInt 1)])) fun v26 =>
  lm_bind (lm_asL (A 284 [.long ((((v11 ^^^ v12) ^^^ v13) ^^^ v14) ^^^ v15), .int (Int32.ofInt 1)])) fun v27 =>
  lm_bind (lm_asL (A 284 [.long ((((v16 ^^^ v17) ^^^ v18) ^^^ v19) ^^^ v20), .int (Int32.ofInt 1)])) fun v28 =>
  lm_bind (lm_asL (A 284 [.long ((((v21 ^^^ v22) ^^^ v23) ^^^ v24) ^^^ v25), .int (Int32.ofInt 1)])) fun v29 =>
  lm_bind (lm_asL (A 284 [.long ((((v1 ^^^ v2) ^^^ v3) ^^^ v4) ^^^ v5), .int (Int32.ofInt 1)])) fun v30 =>
  lm_bind (lm_lald sc x1 (Int32.ofInt 0)) fun v31 =>
  lm_bind (lm_last x2 (Int32.ofInt 0) (v31 ^^^ (((((v21 ^^^ v22) ^^^ v23) ^^^ v24) ^^^ v25) ^^^ v26))) fun _ =>
  lm_bind (lm_lald sc x1 (Int32.ofInt 6)) fun v32 =>
  lm_bind (lm_asL (A 284 [.long (v32 ^^^ (((((v1 ^^^ v2) ^^^ v3) ^^^ v4) ^^^ v5) ^^^ v27)), .int (Int32.ofInt 44)])) fun v33 =>
  lm_bind (lm_last x2 (Int32.ofInt 1) v33) fun _ =>
  lm_bind (lm_lald sc x1 (Int32.ofInt 12)) fun v34 =>
  lm_bind (lm_asL (A 284 [.long (v34 ^^^ (((((v6 ^^^ v7) ^^^ v8) ^^^ v9) ^^^ v10) ^^^ v28)), .int (Int32.ofInt 43)])) fun v35 =>
  lm_bind (lm_last x2 (Int32.ofInt 2) v35) fun _ =>
  lm_bind (lm_lald sc x1 (Int32.ofInt 18)) fun v36 =>
  lm_bind (lm_asL (A 284 [.long (v36 ^^^ (((((v11 ^^^ v12) ^^^ v13) ^^^ v14) ^^^ v15) ^^^ v29)), .int (Int32.ofInt 21)])) fun v37 =>
  lm_bind (lm_last x2 (Int32.ofInt 3) v37) fun _ =>
  lm_bind (lm_lald sc x1 (Int32.ofInt 24)) fun v38 =>
  lm_bind (lm_asL (A 284 [.long (v38 ^^^ (((((v16 ^^^ v17) ^^^ v18) ^^^ v19) ^^^ v20) ^^^ v30)), .int (Int32.ofInt 14)])) fun v39 =>
  lm_bind (lm_last x2 (Int32.ofInt 4) v39) fun _ =>
  lm_bind (lm_lald sc x1 (Int32.ofInt 3)) fun v40 =>
  lm_bind (lm_asL (A 284 [.long (v40 ^^^ (((((v11 ^^^ v12) ^^^ v13) ^^^ v14) ^^^ v15) ^^^ v29)), .int (Int32.ofInt 28)])) fun v41 =>
  lm_bind (lm_last x2 (Int32.ofInt 5) v41) fun _ =>
  lm_bind (lm_lald sc x1 (Int32.ofInt 9)) fun v42 =>
  lm_bind (lm_asL (A 284 [.long (v42 ^^^ (((((v16 ^^^ v17) ^^^ v18) ^^^ v19) ^^^ v20) ^^^ v30)), .int (Int32.ofInt 20)])) fun v43 =>
  lm_bind (lm_last x2 (Int32.ofInt 6) v43) fun _ =>
  lm_bind (lm_lald sc x1 (Int32.ofInt 10)) fun v44 =>
  lm_bind (lm_asL (A 284 [.long (v44 ^^^ (((((v21 ^^^ v22) ^^^ v23) ^^^ v24) ^^^ v25) ^^^ v26)), .int (Int32.ofInt 3)])) fun v45 =>
  lm_bind (lm_last x2 (Int32.ofInt 7) v45) fun _ =>
  lm_bind (lm_lald sc x1 (Int32.ofInt 16)) fun v46 =>
  lm_bind (lm_asL (A 284 [.long (v46 ^^^ (((((v1 ^^^ v2) ^^^ v3) ^^^ v4) ^^^ v5) ^^^ v27)), .int (Int32.ofInt 45)])) fun v47 =>
  lm_bind (lm_last x2 (Int32.ofInt 8) v47) fun _ =>
  lm_bind (lm_lald sc x1 (Int32.ofInt 22)) fun v48 =>
  lm_bind (lm_asL (A 284 [.long (v48 ^^^ (((((v6 ^^^ v7) ^^^ v8) ^^^ v9) ^^^ v10) ^^^ v28)), .int (Int32.ofInt 61)])) fun v49 =>
  lm_bind (lm_last x2 (Int32.ofInt 9) v49) fun _ =>
  lm_bind (lm_lald sc x1 (Int32.ofInt 1)) fun v50 =>
  lm_bind (lm_asL (A 284 [.long (v50 ^^^ (((((v1 ^^^ v2) ^^^ v3) ^^^ v4) ^^^ v5) ^^^ v27)), .int (Int32.ofInt 1)])) fun v51 =>
  lm_bind (lm_last x2 (Int32.ofInt 10) v51) fun _ =>
  lm_bind (lm_lald sc x1 (Int32.ofInt 7)) fun v52 =>
  lm_bind (lm_asL (A 284 [.long (v52 ^^^ (((((v6 ^^^ v7) ^^^ v8) ^^^ v9) ^^^ v10) ^^^ v28)), .int (Int32.ofInt 6)])) fun v53 =>
  lm_bind (lm_last x2 (Int32.ofInt 11) v53) fun _ =>
  lm_bind (lm_lald sc x1 (Int32.ofInt 13)) fun v54 =>
  lm_bind (lm_asL (A 284 [.long (v54 ^^^ (((((v11 ^^^ v12) ^^^ v13) ^^^ v14) ^^^ v15) ^^^ v29)), .int (Int32.ofInt 25)])) fun v55 =>
  lm_bind (lm_last x2 (Int32.ofInt 12) v55) fun _ =>
  lm_bind (lm_lald sc x1 (Int32.ofInt 19)) fun v56 =>
  lm_bind (lm_asL (A 284 [.long (v56 ^^^ (((((v16 ^^^ v17) ^^^ v18) ^^^ v19) ^^^ v20) ^^^ v30)), .int (Int32.ofInt 8)])) fun v57 =>
  lm_bind (lm_last x2 (Int32.ofInt 13) v57) fun _ =>
  lm_bind (lm_lald sc x1 (Int32.ofInt 20)) fun v58 =>
  lm_bind (lm_asL (A 284 [.long (v58 ^^^ (((((v21 ^^^ v22) ^^^ v23) ^^^ v24) ^^^ v25) ^^^ v26)), .int (Int32.ofInt 18)])) fun v59 =>
  lm_bind (lm_last x2 (Int32.ofInt 14) v59) fun _ =>
  lm_bind (lm_lald sc x1 (Int32.ofInt 4)) fun v60 =>
  lm_bind (lm_asL (A 284 [.long (v60 ^^^ (((((v16 ^^^ v17) ^^^ v18) ^^^ v19) ^^^ v20) ^^^ v30)), .int (Int32.ofInt 27)])) fun v61 =>
  lm_bind (lm_last x2 (Int32.ofInt 15) v61) fun _ =>
  lm_bind (lm_lald sc x1 (Int32.ofInt 5)) fun v62 =>
  lm_bind (lm_asL (A 284 [.long (v62 ^^^ (((((v21 ^^^ v22) ^^^ v23) ^^^ v24) ^^^ v25) ^^^ v26)), .int (Int32.ofInt 36)])) fun v63 =>
  lm_bind (lm_last x2 (Int32.ofInt 16) v63) fun _ =>
  lm_bind (lm_lald sc x1 (Int32.ofInt 11)) fun v64 =>
  lm_bind (lm_asL (A 284 [.long (v64 ^^^ (((((v1 ^^^ v2) ^^^ v3) ^^^ v4) ^^^ v5) ^^^ v27)), .int (Int32.ofInt 10)])) fun v65 =>
  lm_bind (lm_last x2 (Int32.ofInt 17) v65) fun _ =>
  lm_bind (lm_lald sc x1 (Int32.ofInt 17)) fun v66 =>
  lm_bind (lm_asL (A 284 [.long (v66 ^^^ (((((v6 ^^^ v7) ^^^ v8) ^^^ v9) ^^^ v10) ^^^ v28)), .int (Int32.ofInt 15)])) fun v67 =>
  lm_bind (lm_last x2 (Int32.ofInt 18) v67) fun _ =>
  lm_bind (lm_lald sc x1 (Int32.ofInt 23)) fun v68 =>
  lm_bind (lm_asL (A 284 [.long (v68 ^^^ (((((v11 ^^^ v12) ^^^ v13) ^^^ v14) ^^^ v15) ^^^ v29)), .int (Int32.ofInt 56)])) fun v69 =>
  lm_bind (lm_last x2 (Int32.ofInt 19) v69) fun _ =>
  lm_bind (lm_lald sc x1 (Int32.ofInt 2)) fun v70 =>
  lm_bind (lm_asL (A 284 [.long (v70 ^^^ (((((v6 ^^^ v7) ^^^ v8) ^^^ v9) ^^^ v10) ^^^ v28)), .int (Int32.ofInt 62)])) fun v71 =>
  lm_bind (lm_last x2 (Int32.ofInt 20) v71) fun _ =>
  lm_bind (lm_lald sc x1 (Int32.ofInt 8)) fun v72 =>
  lm_bind (lm_asL (A 284 [.long (v72 ^^^ (((((v11 ^^^ v12) ^^^ v13) ^^^ v14) ^^^ v15) ^^^ v29)), .int (Int32.ofInt 55)])) fun v73 =>
  lm_bind (lm_last x2 (Int32.ofInt 21) v73) fun _ =>
  lm_bind (lm_lald sc x1 (Int32.ofInt 14)) fun v74 =>
  lm_bind (lm_asL (A 284 [.long (v74 ^^^ (((((v16 ^^^ v17) ^^^ v18) ^^^ v19) ^^^ v20) ^^^ v30)), .int (Int32.ofInt 39)])) fun v75 =>
  lm_bind (lm_last x2 (Int32.ofInt 22) v75) fun _ =>
  lm_bind (lm_lald sc x1 (Int32.ofInt 15)) fun v76 =>
  lm_bind (lm_asL (A 284 [.long (v76 ^^^ (((((v21 ^^^ v22) ^^^ v23) ^^^ v24) ^^^ v25) ^^^ v26)), .int (Int32.ofInt 41)])) fun v77 =>
  lm_bind (lm_last x2 (Int32.ofInt 23) v77) fun _ =>
  lm_bind (lm_lald sc x1 (Int32.ofInt 21)) fun v78 =>
  lm_bind (lm_asL (A 284 [.long (v78 ^^^ (((((v1 ^^^ v2) ^^^ v3) ^^^ v4) ^^^ v5) ^^^ v27)), .int (Int32.ofInt 2)])) fun v79 =>
  lm_bind (lm_last x2 (Int32.ofInt 24) v79) fun _ =>
  B (580, [(1, .ref x1), (2, .ref x2), (3, .int x3), (24, .int (Int32.ofInt 0))], []))
set_option maxRecDepth 100000 in
set_option maxHeartbeats 20000000 in
theorem lm_e212_12 {sc : lm_H} {d : Nat} {x1 : Nat} {x2 : Nat} {x3 : Int32} {σ : lm_S} {r : Except Nat lm_R × lm_S} (h : lm_q212_12 sc (lm_cal sc d) (lm_rn sc d lm_m212.2.2.2.2.1 (lm_reg lm_m212.2.2.2.2.2)) x1 x2 x3  σ = some r) : lm_rn sc d lm_m212.2.2.2.2.1 (lm_reg lm_m212.2.2.2.2.2) (12, [(1, .ref x1), (2, .ref x2), (3, .int x3)], []) σ = some r := lm_rn_of h
/-- LatticeSuite$Sponge.permute, from 580 on -/
noncomputable def lm_q212_580 (sc : lm_H) (A : Nat → List Value → lm_M lm_R) (B : lm_F → lm_M lm_R) (x1 : Nat) (x2 : Nat) (x3 : Int32) (x24 : Int32) : lm_M lm_R :=
  lm_if .ge x24 (Int32.ofInt 25) (lm_bind (lm_lald sc x1 (Int32.ofInt 0)) fun v1 =>
  lm_bind (lm_lald sc (lm_B + 6) x3) fun v2 =>
  lm_bind (lm_last x1 (Int32.ofInt 0) (v1 ^^^ v2)) fun _ =>
  B (12, [(1, .ref x1), (2, .ref x2), (3, .int (x3 + Int32.ofInt 1))], [])) (lm_bind (lm_lald sc x2 x24) fun v3 =>
  lm_bind (lm_lald sc x2 (x24 + (Int32.ofInt 1))) fun v4 =>
  lm_bind (lm_lald sc x2 (x24 + (Int32.ofInt 2))) fun v5 =>
  lm_bind (lm_lald sc x2 (x24 + (Int32.ofInt 3))) fun v6 =>
  lm_bind (lm_lald sc x2 (x24 + (Int32.ofInt 4))) fun v7 =>
  lm_bind (lm_last x1 x24 (v3 ^^^ ((v4 ^^^ (Int64.ofNat 18446744073709551615)) &&& v5))) fun _ =>
  lm_bind (lm_last x1 (x24 + (Int32.ofInt 1)) (v4 ^^^ ((v5 ^^^ (Int64.ofNat 18446744073709551615)) &&& v6))) fun _ =>
  lm_bind (lm_last x1 (x24 + (Int32.ofInt 2)) (v5 ^^^ ((v6 ^^^ (Int64.ofNat 18446744073709551615)) &&& v7))) fun _ =>
  lm_bind (lm_last x1 (x24 + (Int32.ofInt 3)) (v6 ^^^ ((v7 ^^^ (Int64.ofNat 18446744073709551615)) &&& v3))) fun _ =>
  lm_bind (lm_last x1 (x24 + (Int32.ofInt 4)) (v7 ^^^ ((v3 ^^^ (Int64.ofNat 18446744073709551615)) &&& v4))) fun _ =>
  B (580, [(1, .ref x1), (2, .ref x2), (3, .int x3), (24, .int (x24 + Int32.ofInt 5))], []))
set_option maxRecDepth 100000 in
theorem lm_e212_580 {sc : lm_H} {d : Nat} {x1 : Nat} {x2 : Nat} {x3 : Int32} {x24 : Int32} {σ : lm_S} {r : Except Nat lm_R × lm_S} (h : lm_q212_580 sc (lm_cal sc d) (lm_rn sc d lm_m212.2.2.2.2.1 (lm_reg lm_m212.2.2.2.2.2)) x1 x2 x3 x24  σ = some r) : lm_rn sc d lm_m212.2.2.2.2.1 (lm_reg lm_m212.2.2.2.2.2) (580, [(1, .ref x1), (2, .ref x2), (3, .int x3), (24, .int x24)], []) σ = some r := lm_rn_of h
/-- LatticeSuite$Hash.closeBlock, from 0 on -/
noncomputable def lm_q213_0 (sc : lm_H) (A : Nat → List Value → lm_M lm_R) (B : lm_F → lm_M lm_R) (x0 : Nat) (x1 : Int32) : lm_M lm_R :=
  lm_bind (lm_gR 1202 x0) fun v1 =>
  lm_bind (lm_gI 1208 x0) fun v2 =>
  lm_bind (lm_bast v1 v2 (Int32.ofInt (-128))) fun _ =>
  lm_bind (lm_gR 1202 x0) fun v3 =>
  lm_bind (lm_gI 1208 x0) fun v4 =>
  lm_bind (lm_gI 1204 x0) fun v5 =>
  lm_bind (lm_asV (A 134 [.ref v3, .int (v4 + (Int32.ofInt 1)), .int v5, .int (Int32.ofInt 0)])) fun _ =>
  lm_bind (lm_gI 1208 x0) fun v6 =>
  lm_bind (lm_gI 1204 x0) fun v7 =>
  lm_if .gt ((v6 + (Int32.ofInt 1)) + x1) v7 (lm_when ((Int32.ofInt 0) = 0 ∨ (Int32.ofInt 0) = 1) inferInstance (lm_ret (some (.int (Int32.ofInt 0))))) (lm_when ((Int32.ofInt 1) = 0 ∨ (Int32.ofInt 1) = 1) inferInstance (lm_ret (some (.int (Int32.ofInt 1)))))
set_option maxRecDepth 100000 in
theorem lm_e213_0 {sc : lm_H} {d : Nat} {x0 : Nat} {x1 : Int32} {σ : lm_S} {r : Except Nat lm_R × lm_S} (h : lm_q213_0 sc (lm_cal sc d) (lm_rn sc d lm_m213.2.2.2.2.1 (lm_reg lm_m213.2.2.2.2.2)) x0 x1  σ = some r) : lm_rn sc d lm_m213.2.2.2.2.1 (lm_reg lm_m213.2.2.2.2.2) (0, [(0, .ref x0), (1, .int x1)], []) σ = some r := lm_rn_of h
/-- LatticeSuite$Hash.putTotal, from 0 on -/
noncomputable def lm_q214_0 (sc : lm_H) (A : Nat → List Value → lm_M lm_R) (B : lm_F → lm_M lm_R) (x0 : Nat) : lm_M lm_R :=
  lm_bind (lm_gL 1213 x0) fun v1 =>
  lm_bind (lm_gR 1202 x0) fun v2 =>
  lm_bind (lm_gI 1204 x0) fun v3 =>
  lm_bind (lm_asV (A 131 [.int (Int64.toInt32 (lm_uL ((Int64.ofNat 8) * v1) (Int32.ofInt 32))), .ref v2, .int (v3 - (Int32.ofInt 8))])) fun _ =>
  lm_bind (lm_gR 1202 x0) fun v4 =>
  lm_bind (lm_gI 1204 x0) fun v5 =>
  lm_bind (lm_asV (A 131 [.int (Int64.toInt32 ((Int64.ofNat 8) * v1)), .ref v4, .int (v5 - (Int32.ofInt 4))])) fun _ =>
  lm_ret none
set_option maxRecDepth 100000 in
theorem lm_e214_0 {sc : lm_H} {d : Nat} {x0 : Nat} {σ : lm_S} {r : Except Nat lm_R × lm_S} (h : lm_q214_0 sc (lm_cal sc d) (lm_rn sc d lm_m214.2.2.2.2.1 (lm_reg lm_m214.2.2.2.2.2)) x0  σ = some r) : lm_rn sc d lm_m214.2.2.2.2.1 (lm_reg lm_m214.2.2.2.2.2) (0, [(0, .ref x0)], []) σ = some r := lm_rn_of h
/-- LatticeSuite$Kem.hashPair, from 0 on -/
noncomputable def lm_q215_0 (sc : lm_H) (A : Nat → List Value → lm_M lm_R) (B : lm_F → lm_M lm_R) (x0 : Nat) (x1 : Nat) (x2 : Int32) (x3 : Nat) (x4 : Int32) (x5 : Int32) : lm_M lm_R :=
  lm_bind (lm_gR 3202 x0) fun v1 =>
  lm_bind (lm_sel [(2, 139)] (some (.ref v1))) fun y2 =>
  lm_bind (lm_asR (A y2 [.ref v1, .int (Int32.ofInt 10)])) fun v3 =>
  lm_bind (lm_sel [(5, 140), (6, 140), (7, 140)] (some (.ref v3))) fun y4 =>
  lm_bind (lm_asV (A y4 [.ref v3, .ref x1, .int (Int32.ofInt 0), .int x2])) fun _ =>
  lm_bind (lm_sel [(5, 140), (6, 140), (7, 140)] (some (.ref v3))) fun y5 =>
  lm_bind (lm_asV (A y5 [.ref v3, .ref x3, .int x4, .int x5])) fun _ =>
  lm_bind (lm_gR 3238 x0) fun v6 =>
  lm_bind (lm_sel [(5, 143), (6, 144), (7, 145)] (some (.ref v3))) fun y7 =>
  lm_bind (lm_asV (A y7 [.ref v3, .ref v6, .int (Int32.ofInt 0), .int (Int32.ofInt 64)])) fun _ =>
  lm_ret none
set_option maxRecDepth 100000 in
theorem lm_e215_0 {sc : lm_H} {d : Nat} {x0 : Nat} {x1 : Nat} {x2 : Int32} {x3 : Nat} {x4 : Int32} {x5 : Int32} {σ : lm_S} {r : Except Nat lm_R × lm_S} (h : lm_q215_0 sc (lm_cal sc d) (lm_rn sc d lm_m215.2.2.2.2.1 (lm_reg lm_m215.2.2.2.2.2)) x0 x1 x2 x3 x4 x5  σ = some r) : lm_rn sc d lm_m215.2.2.2.2.1 (lm_reg lm_m215.2.2.2.2.2) (0, [(0, .ref x0), (1, .ref x1), (2, .int x2), (3, .ref x3), (4, .int x4), (5, .int x5)], []) σ = some r := lm_rn_of h
/-- LatticeSuite$Kem.expand, from 0 on -/
noncomputable def lm_q216_0 (sc : lm_H) (A : Nat → List Value → lm_M lm_R) (B : lm_F → lm_M lm_R) (x0 : Nat) (x1 : Nat) (x2 : Int32) : lm_M lm_R :=
  lm_bind (lm_gR 3234 x0) fun v1 =>
  lm_bind (lm_copy sc x1 x2 v1 (Int32.ofInt 0) (Int32.ofInt 32)) fun _ =>
  B (14, [(0, .ref x0), (3, .int (Int32.ofInt 0))], [])
set_option maxRecDepth 100000 in
theorem lm_e216_0 {sc : lm_H} {d : Nat} {x0 : Nat} {x1 : Nat} {x2 : Int32} {σ : lm_S} {r : Except Nat lm_R × lm_S} (h : lm_q216_0 sc (lm_cal sc d) (lm_rn sc d lm_m216.2.2.2.2.1 (lm_reg lm_m216.2.2.2.2.2)) x0 x1 x2  σ = some r) : lm_rn sc d lm_m216.2.2.2.2.1 (lm_reg lm_m216.2.2.2.2.2) (0, [(0, .ref x0), (1, .ref x1), (2, .int x2)], []) σ = some r := lm_rn_of h
/-- LatticeSuite$Kem.expand, from 14 on -/
noncomputable def lm_q216_14 (sc : lm_H) (A : Nat → List Value → lm_M lm_R) (B : lm_F → lm_M lm_R) (x0 : Nat) (x3 : Int32) : lm_M lm_R :=
  lm_bind (lm_gI 3248 x0) fun v1 =>
  lm_if .ge x3 v1 (lm_ret none) (B (25, [(0, .ref x0), (3, .int x3), (4, .int (Int32.ofInt 0))], []))
set_option maxRecDepth 100000 in
theorem lm_e216_14 {sc : lm_H} {d : Nat} {x0 : Nat} {x3 : Int32} {σ : lm_S} {r : Except Nat lm_R × lm_S} (h : lm_q216_14 sc (lm_cal sc d) (lm_rn sc d lm_m216.2.2.2.2.1 (lm_reg lm_m216.2.2.2.2.2)) x0 x3  σ = some r) : lm_rn sc d lm_m216.2.2.2.2.1 (lm_reg lm_m216.2.2.2.2.2) (14, [(0, .ref x0), (3, .int x3)], []) σ = some r := lm_rn_of h
/-- LatticeSuite$Kem.expand, from 25 on -/
noncomputable def lm_q216_25 (sc : lm_H) (A : Nat → List Value → lm_M lm_R) (B : lm_F → lm_M lm_R) (x0 : Nat) (x3 : Int32) (x4 : Int32) : lm_M lm_R :=
  lm_bind (lm_gI 3248 x0) fun v1 =>
  lm_if .ge x4 v1 (B (14, [(0, .ref x0), (3, .int (x3 + Int32.ofInt 1))], [])) (lm_bind (lm_gR 3234 x0) fun v2 =>
  lm_bind (lm_bast v2 (Int32.ofInt 32) (lm_b8 x4)) fun _ =>
  lm_bind (lm_gR 3234 x0) fun v3 =>
  lm_bind (lm_bast v3 (Int32.ofInt 33) (lm_b8 x3)) fun _ =>
  lm_bind (lm_gR 3214 x0) fun v4 =>
  lm_bind (lm_gI 3248 x0) fun v5 =>
  lm_bind (lm_aaR sc v4 ((x3 * v5) + x4)) fun v6 =>
  lm_bind (lm_sel [(8, 285)] (some (.ref x0))) fun y7 =>
  lm_bind (lm_asV (A y7 [.ref x0, .ref v6])) fun _ =>
  B (25, [(0, .ref x0), (3, .int x3), (4, .int (x4 + Int32.ofInt 1))], []))
set_option maxRecDepth 100000 in
theorem lm_e216_25 {sc : lm_H} {d : Nat} {x0 : Nat} {x3 : Int32} {x4 : Int32} {σ : lm_S} {r : Except Nat lm_R × lm_S} (h : lm_q216_25 sc (lm_cal sc d) (lm_rn sc d lm_m216.2.2.2.2.1 (lm_reg lm_m216.2.2.2.2.2)) x0 x3 x4  σ = some r) : lm_rn sc d lm_m216.2.2.2.2.1 (lm_reg lm_m216.2.2.2.2.2) (25, [(0, .ref x0), (3, .int x3), (4, .int x4)], []) σ = some r := lm_rn_of h
/-- LatticeSuite$Kem.noise, from 0 on -/
noncomputable def lm_q217_0 (sc : lm_H) (A : Nat → List Value → lm_M lm_R) (B : lm_F → lm_M lm_R) (x0 : Nat) (x1 : Nat) (x2 : Int32) (x3 : Int32) : lm_M lm_R :=
  lm_bind (lm_gR 3238 x0) fun v1 =>
  lm_bind (lm_gR 3234 x0) fun v2 =>
  lm_bind (lm_copy sc v1 (Int32.ofInt 32) v2 (Int32.ofInt 0) (Int32.ofInt 32)) fun _ =>
  lm_bind (lm_gR 3234 x0) fun v3 =>
  lm_bind (lm_bast v3 (Int32.ofInt 32) (lm_b8 x2)) fun _ =>
  lm_bind (lm_gR 3202 x0) fun v4 =>
  lm_bind (lm_sel [(2, 139)] (some (.ref v4))) fun y5 =>
  lm_bind (lm_asR (A y5 [.ref v4, .int (Int32.ofInt 12)])) fun v6 =>
  lm_bind (lm_gR 3234 x0) fun v7 =>
  lm_bind (lm_sel [(5, 140), (6, 140), (7, 140)] (some (.ref v6))) fun y8 =>
  lm_bind (lm_asV (A y8 [.ref v6, .ref v7, .int (Int32.ofInt 0), .int (Int32.ofInt 33)])) fun _ =>
  lm_bind (lm_gR 3230 x0) fun v9 =>
  lm_bind (lm_sel [(5, 143), (6, 144), (7, 145)] (some (.ref v6))) fun y10 =>
  lm_bind (lm_asV (A y10 [.ref v6, .ref v9, .int (Int32.ofInt 0), .int ((Int32.ofInt 64) * x3)])) fun _ =>
  B (68, [(0, .ref x0), (1, .ref x1), (3, .int x3), (5, .int (Int32.ofInt 0)), (6, .int (Int32.ofInt 0))], [])
set_option maxRecDepth 100000 in
theorem lm_e217_0 {sc : lm_H} {d : Nat} {x0 : Nat} {x1 : Nat} {x2 : Int32} {x3 : Int32} {σ : lm_S} {r : Except Nat lm_R × lm_S} (h : lm_q217_0 sc (lm_cal sc d) (lm_rn sc d lm_m217.2.2.2.2.1 (lm_reg lm_m217.2.2.2.2.2)) x0 x1 x2 x3  σ = some r) : lm_rn sc d lm_m217.2.2.2.2.1 (lm_reg lm_m217.2.2.2.2.2) (0, [(0, .ref x0), (1, .ref x1), (2, .int x2), (3, .int x3)], []) σ = some r := lm_rn_of h
/-- LatticeSuite$Kem.noise, from 68 on -/
noncomputable def lm_q217_68 (sc : lm_H) (A : Nat → List Value → lm_M lm_R) (B : lm_F → lm_M lm_R) (x0 : Nat) (x1 : Nat) (x3 : Int32) (x5 : Int32) (x6 : Int32) : lm_M lm_R :=
  lm_if .ge x6 (Int32.ofInt 256) (lm_ret none) (B (82, [(0, .ref x0), (1, .ref x1), (3, .int x3), (5, .int x5), (6, .int x6), (7, .int (Int32.ofInt 0)), (8, .int (Int32.ofInt 0))], []))
set_option maxRecDepth 100000 in
theorem lm_e217_68 {sc : lm_H} {d : Nat} {x0 : Nat} {x1 : Nat} {x3 : Int32} {x5 : Int32} {x6 : Int32} {σ : lm_S} {r : Except Nat lm_R × lm_S} (h : lm_q217_68 sc (lm_cal sc d) (lm_rn sc d lm_m217.2.2.2.2.1 (lm_reg lm_m217.2.2.2.2.2)) x0 x1 x3 x5 x6  σ = some r) : lm_rn sc d lm_m217.2.2.2.2.1 (lm_reg lm_m217.2.2.2.2.2) (68, [(0, .ref x0), (1, .ref x1), (3, .int x3), (5, .int x5), (6, .int x6)], []) σ = some r := lm_rn_of h
/-- LatticeSuite$Kem.noise, from 82 on -/
noncomputable def lm_q217_82 (sc : lm_H) (A : Nat → List Value → lm_M lm_R) (B : lm_F → lm_M lm_R) (x0 : Nat) (x1 : Nat) (x3 : Int32) (x5 : Int32) (x6 : Int32) (x7 : Int32) (x8 : Int32) : lm_M lm_R :=
  lm_if .ge x8 ((Int32.ofInt 2) * x3) (lm_bind (lm_iast x1 x6 x7) fun _ =>
  B (68, [(0, .ref x0), (1, .ref x1), (3, .int x3), (5, .int x5), (6, .int (x6 + Int32.ofInt 1))], [])) (lm_bind (lm_gR 3230 x0) fun v1 =>
  lm_bind (lm_bald sc v1 (x5 >>> ((Int32.ofInt 3) &&& 31))) fun v2 =>
  lm_if .ge x8 x3 (B (125, [(0, .ref x0), (1, .ref x1), (3, .int x3), (5, .int x5), (6, .int x6), (8, .int x8)], [.int (-((v2 >>> ((x5 &&& (Int32.ofInt 7)) &&& 31)) &&& (Int32.ofInt 1))), .int x7])) (B (125, [(0, .ref x0), (1, .ref x1), (3, .int x3), (5, .int x5), (6, .int x6), (8, .int x8)], [.int ((v2 >>> ((x5 &&& (Int32.ofInt 7)) &&& 31)) &&& (Int32.ofInt 1)), .int x7])))
set_option maxRecDepth 100000 in
theorem lm_e217_82 {sc : lm_H} {d : Nat} {x0 : Nat} {x1 : Nat} {x3 : Int32} {x5 : Int32} {x6 : Int32} {x7 : Int32} {x8 : Int32} {σ : lm_S} {r : Except Nat lm_R × lm_S} (h : lm_q217_82 sc (lm_cal sc d) (lm_rn sc d lm_m217.2.2.2.2.1 (lm_reg lm_m217.2.2.2.2.2)) x0 x1 x3 x5 x6 x7 x8  σ = some r) : lm_rn sc d lm_m217.2.2.2.2.1 (lm_reg lm_m217.2.2.2.2.2) (82, [(0, .ref x0), (1, .ref x1), (3, .int x3), (5, .int x5), (6, .int x6), (7, .int x7), (8, .int x8)], []) σ = some r := lm_rn_of h
/-- LatticeSuite$Kem.noise, from 125 on -/
noncomputable def lm_q217_125 (sc : lm_H) (A : Nat → List Value → lm_M lm_R) (B : lm_F → lm_M lm_R) (x0 : Nat) (x1 : Nat) (x3 : Int32) (x5 : Int32) (x6 : Int32) (x8 : Int32) (s0 : Int32) (s1 : Int32) : lm_M lm_R :=
  B (82, [(0, .ref x0), (1, .ref x1), (3, .int x3), (5, .int (x5 + Int32.ofInt 1)), (6, .int x6), (7, .int (s1 + s0)), (8, .int (x8 + Int32.ofInt 1))], [])
set_option maxRecDepth 100000 in
theorem lm_e217_125 {sc : lm_H} {d : Nat} {x0 : Nat} {x1 : Nat} {x3 : Int32} {x5 : Int32} {x6 : Int32} {x8 : Int32} {s0 : Int32} {s1 : Int32} {σ : lm_S} {r : Except Nat lm_R × lm_S} (h : lm_q217_125 sc (lm_cal sc d) (lm_rn sc d lm_m217.2.2.2.2.1 (lm_reg lm_m217.2.2.2.2.2)) x0 x1 x3 x5 x6 x8 s0 s1 σ = some r) : lm_rn sc d lm_m217.2.2.2.2.1 (lm_reg lm_m217.2.2.2.2.2) (125, [(0, .ref x0), (1, .ref x1), (3, .int x3), (5, .int x5), (6, .int x6), (8, .int x8)], [.int s0, .int s1]) σ = some r := lm_rn_of h
/-- LatticeSuite$Kem.toPairs, from 0 on -/
noncomputable def lm_q218_0 (sc : lm_H) (A : Nat → List Value → lm_M lm_R) (B : lm_F → lm_M lm_R) (x0 : Nat) (x1 : Nat) : lm_M lm_R :=
  B (6, [(0, .ref x0), (1, .ref x1), (2, .int (Int32.ofInt 1)), (3, .int (Int32.ofInt 128))], [])
set_option maxRecDepth 100000 in
theorem lm_e218_0 {sc : lm_H} {d : Nat} {x0 : Nat} {x1 : Nat} {σ : lm_S} {r : Except Nat lm_R × lm_S} (h : lm_q218_0 sc (lm_cal sc d) (lm_rn sc d lm_m218.2.2.2.2.1 (lm_reg lm_m218.2.2.2.2.2)) x0 x1  σ = some r) : lm_rn sc d lm_m218.2.2.2.2.1 (lm_reg lm_m218.2.2.2.2.2) (0, [(0, .ref x0), (1, .ref x1)], []) σ = some r := lm_rn_of h
/-- LatticeSuite$Kem.toPairs, from 6 on -/
noncomputable def lm_q218_6 (sc : lm_H) (A : Nat → List Value → lm_M lm_R) (B : lm_F → lm_M lm_R) (x0 : Nat) (x1 : Nat) (x2 : Int32) (x3 : Int32) : lm_M lm_R :=
  lm_if .lt x3 (Int32.ofInt 2) (lm_bind (lm_asV (A 221 [.ref x1])) fun _ =>
  lm_ret none) (B (14, [(0, .ref x0), (1, .ref x1), (2, .int x2), (3, .int x3), (4, .int (Int32.ofInt 0))], []))
set_option maxRecDepth 100000 in
theorem lm_e218_6 {sc : lm_H} {d : Nat} {x0 : Nat} {x1 : Nat} {x2 : Int32} {x3 : Int32} {σ : lm_S} {r : Except Nat lm_R × lm_S} (h : lm_q218_6 sc (lm_cal sc d) (lm_rn sc d lm_m218.2.2.2.2.1 (lm_reg lm_m218.2.2.2.2.2)) x0 x1 x2 x3  σ = some r) : lm_rn sc d lm_m218.2.2.2.2.1 (lm_reg lm_m218.2.2.2.2.2) (6, [(0, .ref x0), (1, .ref x1), (2, .int x2), (3, .int x3)], []) σ = some r := lm_rn_of h
/-- LatticeSuite$Kem.toPairs, from 14 on -/
noncomputable def lm_q218_14 (sc : lm_H) (A : Nat → List Value → lm_M lm_R) (B : lm_F → lm_M lm_R) (x0 : Nat) (x1 : Nat) (x2 : Int32) (x3 : Int32) (x4 : Int32) : lm_M lm_R :=
  lm_if .ge x4 (Int32.ofInt 256) (B (6, [(0, .ref x0), (1, .ref x1), (2, .int x2), (3, .int (x3 >>> ((Int32.ofInt 1) &&& 31)))], [])) (lm_bind (lm_gR 3206 x0) fun v1 =>
  lm_bind (lm_iald sc v1 x2) fun v2 =>
  B (37, [(0, .ref x0), (1, .ref x1), (2, .int (x2 + Int32.ofInt 1)), (3, .int x3), (4, .int x4), (5, .int v2), (6, .int x4)], []))
set_option maxRecDepth 100000 in
theorem lm_e218_14 {sc : lm_H} {d : Nat} {x0 : Nat} {x1 : Nat} {x2 : Int32} {x3 : Int32} {x4 : Int32} {σ : lm_S} {r : Except Nat lm_R × lm_S} (h : lm_q218_14 sc (lm_cal sc d) (lm_rn sc d lm_m218.2.2.2.2.1 (lm_reg lm_m218.2.2.2.2.2)) x0 x1 x2 x3 x4  σ = some r) : lm_rn sc d lm_m218.2.2.2.2.1 (lm_reg lm_m218.2.2.2.2.2) (14, [(0, .ref x0), (1, .ref x1), (2, .int x2), (3, .int x3), (4, .int x4)], []) σ = some r := lm_rn_of h
/-- LatticeSuite$Kem.toPairs, from 37 on -/
noncomputable def lm_q218_37 (sc : lm_H) (A : Nat → List Value → lm_M lm_R) (B : lm_F → lm_M lm_R) (x0 : Nat) (x1 : Nat) (x2 : Int32) (x3 : Int32) (x4 : Int32) (x5 : Int32) (x6 : Int32) : lm_M lm_R :=
  lm_if .ge x6 (x4 + x3) (B (14, [(0, .ref x0), (1, .ref x1), (2, .int x2), (3, .int x3), (4, .int (x4 + ((Int32.ofInt 2) * x3)))], [])) (lm_bind (lm_iald sc x1 (x6 + x3)) fun v1 =>
  lm_when (¬ (Int32.ofInt 3329) = 0) inferInstance (lm_bind (lm_iald sc x1 x6) fun v2 =>
  lm_bind (lm_iast x1 (x6 + x3) (v2 - (lm_rem (x5 * v1) (Int32.ofInt 3329)))) fun _ =>
  lm_bind (lm_iald sc x1 x6) fun v3 =>
  lm_bind (lm_iast x1 x6 (v3 + (lm_rem (x5 * v1) (Int32.ofInt 3329)))) fun _ =>
  B (37, [(0, .ref x0), (1, .ref x1), (2, .int x2), (3, .int x3), (4, .int x4), (5, .int x5), (6, .int (x6 + Int32.ofInt 1))], [])))
set_option maxRecDepth 100000 in
theorem lm_e218_37 {sc : lm_H} {d : Nat} {x0 : Nat} {x1 : Nat} {x2 : Int32} {x3 : Int32} {x4 : Int32} {x5 : Int32} {x6 : Int32} {σ : lm_S} {r : Except Nat lm_R × lm_S} (h : lm_q218_37 sc (lm_cal sc d) (lm_rn sc d lm_m218.2.2.2.2.1 (lm_reg lm_m218.2.2.2.2.2)) x0 x1 x2 x3 x4 x5 x6  σ = some r) : lm_rn sc d lm_m218.2.2.2.2.1 (lm_reg lm_m218.2.2.2.2.2) (37, [(0, .ref x0), (1, .ref x1), (2, .int x2), (3, .int x3), (4, .int x4), (5, .int x5), (6, .int x6)], []) σ = some r := lm_rn_of h
/-- LatticeSuite$Bits.pack, from 0 on -/
noncomputable def lm_q219_0 (sc : lm_H) (A : Nat → List Value → lm_M lm_R) (B : lm_F → lm_M lm_R) (x0 : Nat) (x1 : Int32) (x2 : Nat) (x3 : Int32) : lm_M lm_R :=
  B (12, [(0, .ref x0), (1, .int x1), (2, .ref x2), (4, .int (Int32.ofInt 0)), (5, .int (Int32.ofInt 0)), (6, .int x3), (7, .int (Int32.ofInt 0))], [])
set_option maxRecDepth 100000 in
theorem lm_e219_0 {sc : lm_H} {d : Nat} {x0 : Nat} {x1 : Int32} {x2 : Nat} {x3 : Int32} {σ : lm_S} {r : Except Nat lm_R × lm_S} (h : lm_q219_0 sc (lm_cal sc d) (lm_rn sc d lm_m219.2.2.2.2.1 (lm_reg lm_m219.2.2.2.2.2)) x0 x1 x2 x3  σ = some r) : lm_rn sc d lm_m219.2.2.2.2.1 (lm_reg lm_m219.2.2.2.2.2) (0, [(0, .ref x0), (1, .int x1), (2, .ref x2), (3, .int x3)], []) σ = some r := lm_rn_of h
/-- LatticeSuite$Bits.pack, from 12 on -/
noncomputable def lm_q219_12 (sc : lm_H) (A : Nat → List Value → lm_M lm_R) (B : lm_F → lm_M lm_R) (x0 : Nat) (x1 : Int32) (x2 : Nat) (x4 : Int32) (x5 : Int32) (x6 : Int32) (x7 : Int32) : lm_M lm_R :=
  lm_bind (lm_alen sc x0) fun v1 =>
  lm_if .ge x7 v1 (lm_ret none) (lm_bind (lm_iald sc x0 x7) fun v2 =>
  B (37, [(0, .ref x0), (1, .int x1), (2, .ref x2), (4, .int (x4 ||| (v2 <<< (x5 &&& 31)))), (5, .int (x5 + x1)), (6, .int x6), (7, .int x7)], []))
set_option maxRecDepth 100000 in
theorem lm_e219_12 {sc : lm_H} {d : Nat} {x0 : Nat} {x1 : Int32} {x2 : Nat} {x4 : Int32} {x5 : Int32} {x6 : Int32} {x7 : Int32} {σ : lm_S} {r : Except Nat lm_R × lm_S} (h : lm_q219_12 sc (lm_cal sc d) (lm_rn sc d lm_m219.2.2.2.2.1 (lm_reg lm_m219.2.2.2.2.2)) x0 x1 x2 x4 x5 x6 x7  σ = some r) : lm_rn sc d lm_m219.2.2.2.2.1 (lm_reg lm_m219.2.2.2.2.2) (12, [(0, .ref x0), (1, .int x1), (2, .ref x2), (4, .int x4), (5, .int x5), (6, .int x6), (7, .int x7)], []) σ = some r := lm_rn_of h
/-- LatticeSuite$Bits.pack, from 37 on -/
noncomputable def lm_q219_37 (sc : lm_H) (A : Nat → List Value → lm_M lm_R) (B : lm_F → lm_M lm_R) (x0 : Nat) (x1 : Int32) (x2 : Nat) (x4 : Int32) (x5 : Int32) (x6 : Int32) (x7 : Int32) : lm_M lm_R :=
  lm_if .lt x5 (Int32.ofInt 8) (B (12, [(0, .ref x0), (1, .int x1), (2, .ref x2), (4, .int x4), (5, .int x5), (6, .int x6), (7, .int (x7 + Int32.ofInt 1))], [])) (lm_bind (lm_bast x2 x6 (lm_b8 x4)) fun _ =>
  B (37, [(0, .ref x0), (1, .int x1), (2, .ref x2), (4, .int (lm_us x4 (Int32.ofInt 8))), (5, .int (x5 + Int32.ofInt (-8))), (6, .int (x6 + Int32.ofInt 1)), (7, .int x7)], []))
set_option maxRecDepth 100000 in
theorem lm_e219_37 {sc : lm_H} {d : Nat} {x0 : Nat} {x1 : Int32} {x2 : Nat} {x4 : Int32} {x5 : Int32} {x6 : Int32} {x7 : Int32} {σ : lm_S} {r : Except Nat lm_R × lm_S} (h : lm_q219_37 sc (lm_cal sc d) (lm_rn sc d lm_m219.2.2.2.2.1 (lm_reg lm_m219.2.2.2.2.2)) x0 x1 x2 x4 x5 x6 x7  σ = some r) : lm_rn sc d lm_m219.2.2.2.2.1 (lm_reg lm_m219.2.2.2.2.2) (37, [(0, .ref x0), (1, .int x1), (2, .ref x2), (4, .int x4), (5, .int x5), (6, .int x6), (7, .int x7)], []) σ = some r := lm_rn_of h
/-- LatticeSuite$Kem.addProduct, from 0 on -/
noncomputable def lm_q220_0 (sc : lm_H) (A : Nat → List Value → lm_M lm_R) (B : lm_F → lm_M lm_R) (x0 : Nat) (x1 : Nat) (x2 : Nat) : lm_M lm_R :=
  B (2, [(0, .ref x0), (1, .ref x1), (2, .ref x2), (3, .int (Int32.ofInt 0))], [])
set_option maxRecDepth 100000 in
theorem lm_e220_0 {sc : lm_H} {d : Nat} {x0 : Nat} {x1 : Nat} {x2 : Nat} {σ : lm_S} {r : Except Nat lm_R × lm_S} (h : lm_q220_0 sc (lm_cal sc d) (lm_rn sc d lm_m220.2.2.2.2.1 (lm_reg lm_m220.2.2.2.2.2)) x0 x1 x2  σ = some r) : lm_rn sc d lm_m220.2.2.2.2.1 (lm_reg lm_m220.2.2.2.2.2) (0, [(0, .ref x0), (1, .ref x1), (2, .ref x2)], []) σ = some r := lm_rn_of h
/-- LatticeSuite$Kem.addProduct, from 2 on -/
noncomputable def lm_q220_2 (sc : lm_H) (A : Nat → List Value → lm_M lm_R) (B : lm_F → lm_M lm_R) (x0 : Nat) (x1 : Nat) (x2 : Nat) (x3 : Int32) : lm_M lm_R :=
  lm_if .ge x3 (Int32.ofInt 256) (lm_ret none) (lm_bind (lm_iald sc x1 (x3 + (Int32.ofInt 1))) fun v1 =>
  lm_bind (lm_iald sc x2 (x3 + (Int32.ofInt 1))) fun v2 =>
  lm_when (¬ (Int32.ofInt 3329) = 0) inferInstance (lm_bind (lm_gR 3222 x0) fun v3 =>
  lm_bind (lm_iald sc v3 x3) fun v4 =>
  lm_bind (lm_iald sc x1 x3) fun v5 =>
  lm_bind (lm_iald sc x2 x3) fun v6 =>
  lm_bind (lm_gR 3210 x0) fun v7 =>
  lm_bind (lm_iald sc v7 (x3 >>> ((Int32.ofInt 1) &&& 31))) fun v8 =>
  lm_bind (lm_iast v3 x3 (v4 + ((v5 * v6) + ((lm_rem (v1 * v2) (Int32.ofInt 3329)) * v8)))) fun _ =>
  lm_bind (lm_gR 3222 x0) fun v9 =>
  lm_bind (lm_iald sc v9 (x3 + (Int32.ofInt 1))) fun v10 =>
  lm_bind (lm_iald sc x1 x3) fun v11 =>
  lm_bind (lm_iald sc x2 (x3 + (Int32.ofInt 1))) fun v12 =>
  lm_bind (lm_iald sc x1 (x3 + (Int32.ofInt 1))) fun v13 =>
  lm_bind (lm_iald sc x2 x3) fun v14 =>
  lm_bind (lm_iast v9 (x3 + (Int32.ofInt 1)) (v10 + ((v11 * v12) + (v13 * v14)))) fun _ =>
  B (2, [(0, .ref x0), (1, .ref x1), (2, .ref x2), (3, .int (x3 + Int32.ofInt 2))], [])))
set_option maxRecDepth 100000 in
theorem lm_e220_2 {sc : lm_H} {d : Nat} {x0 : Nat} {x1 : Nat} {x2 : Nat} {x3 : Int32} {σ : lm_S} {r : Except Nat lm_R × lm_S} (h : lm_q220_2 sc (lm_cal sc d) (lm_rn sc d lm_m220.2.2.2.2.1 (lm_reg lm_m220.2.2.2.2.2)) x0 x1 x2 x3  σ = some r) : lm_rn sc d lm_m220.2.2.2.2.1 (lm_reg lm_m220.2.2.2.2.2) (2, [(0, .ref x0), (1, .ref x1), (2, .ref x2), (3, .int x3)], []) σ = some r := lm_rn_of h
/-- LatticeSuite$Kem.reduce, from 0 on -/
noncomputable def lm_q221_0 (sc : lm_H) (A : Nat → List Value → lm_M lm_R) (B : lm_F → lm_M lm_R) (x0 : Nat) : lm_M lm_R :=
  B (2, [(0, .ref x0), (1, .int (Int32.ofInt 0))], [])
set_option maxRecDepth 100000 in
theorem lm_e221_0 {sc : lm_H} {d : Nat} {x0 : Nat} {σ : lm_S} {r : Except Nat lm_R × lm_S} (h : lm_q221_0 sc (lm_cal sc d) (lm_rn sc d lm_m221.2.2.2.2.1 (lm_reg lm_m221.2.2.2.2.2)) x0  σ = some r) : lm_rn sc d lm_m221.2.2.2.2.1 (lm_reg lm_m221.2.2.2.2.2) (0, [(0, .ref x0)], []) σ = some r := lm_rn_of h
/-- LatticeSuite$Kem.reduce, from 2 on -/
noncomputable def lm_q221_2 (sc : lm_H) (A : Nat → List Value → lm_M lm_R) (B : lm_F → lm_M lm_R) (x0 : Nat) (x1 : Int32) : lm_M lm_R :=
  lm_if .ge x1 (Int32.ofInt 256) (lm_ret none) (lm_bind (lm_iald sc x0 x1) fun v1 =>
  lm_bind (lm_asI (A 286 [.int v1, .int (Int32.ofInt 3329)])) fun v2 =>
  lm_bind (lm_iast x0 x1 v2) fun _ =>
  B (2, [(0, .ref x0), (1, .int (x1 + Int32.ofInt 1))], []))
set_option maxRecDepth 100000 in
theorem lm_e221_2 {sc : lm_H} {d : Nat} {x0 : Nat} {x1 : Int32} {σ : lm_S} {r : Except Nat lm_R × lm_S} (h : lm_q221_2 sc (lm_cal sc d) (lm_rn sc d lm_m221.2.2.2.2.1 (lm_reg lm_m221.2.2.2.2.2)) x0 x1  σ = some r) : lm_rn sc d lm_m221.2.2.2.2.1 (lm_reg lm_m221.2.2.2.2.2) (2, [(0, .ref x0), (1, .int x1)], []) σ = some r := lm_rn_of h
/-- LatticeSuite$Kem.publicSize, from 0 on -/
noncomputable def lm_q222_0 (sc : lm_H) (A : Nat → List Value → lm_M lm_R) (B : lm_F → lm_M lm_R) (x0 : Nat) : lm_M lm_R :=
  lm_bind (lm_gI 3248 x0) fun v1 =>
  lm_ret (some (.int (((Int32.ofInt 384) * v1) + (Int32.ofInt 32))))
set_option maxRecDepth 100000 in
theorem lm_e222_0 {sc : lm_H} {d : Nat} {x0 : Nat} {σ : lm_S} {r : Except Nat lm_R × lm_S} (h : lm_q222_0 sc (lm_cal sc d) (lm_rn sc d lm_m222.2.2.2.2.1 (lm_reg lm_m222.2.2.2.2.2)) x0  σ = some r) : lm_rn sc d lm_m222.2.2.2.2.1 (lm_reg lm_m222.2.2.2.2.2) (0, [(0, .ref x0)], []) σ = some r := lm_rn_of h
/-- LatticeSuite$Kem.hashPublic, from 0 on -/
noncomputable def lm_q223_0 (sc : lm_H) (A : Nat → List Value → lm_M lm_R) (B : lm_F → lm_M lm_R) (x0 : Nat) (x1 : Nat) (x2 : Int32) (x3 : Nat) (x4 : Int32) : lm_M lm_R :=
  lm_bind (lm_gR 3202 x0) fun v1 =>
  lm_bind (lm_sel [(2, 139)] (some (.ref v1))) fun y2 =>
  lm_bind (lm_asR (A y2 [.ref v1, .int (Int32.ofInt 8)])) fun v3 =>
  lm_bind (lm_sel [(8, 222)] (some (.ref x0))) fun y4 =>
  lm_bind (lm_asI (A y4 [.ref x0])) fun v5 =>
  lm_bind (lm_sel [(5, 140), (6, 140), (7, 140)] (some (.ref v3))) fun y6 =>
  lm_bind (lm_asV (A y6 [.ref v3, .ref x1, .int x2, .int v5])) fun _ =>
  lm_bind (lm_sel [(5, 143), (6, 144), (7, 145)] (some (.ref v3))) fun y7 =>
  lm_bind (lm_asV (A y7 [.ref v3, .ref x3, .int x4, .int (Int32.ofInt 32)])) fun _ =>
  lm_ret none
set_option maxRecDepth 100000 in
theorem lm_e223_0 {sc : lm_H} {d : Nat} {x0 : Nat} {x1 : Nat} {x2 : Int32} {x3 : Nat} {x4 : Int32} {σ : lm_S} {r : Except Nat lm_R × lm_S} (h : lm_q223_0 sc (lm_cal sc d) (lm_rn sc d lm_m223.2.2.2.2.1 (lm_reg lm_m223.2.2.2.2.2)) x0 x1 x2 x3 x4  σ = some r) : lm_rn sc d lm_m223.2.2.2.2.1 (lm_reg lm_m223.2.2.2.2.2) (0, [(0, .ref x0), (1, .ref x1), (2, .int x2), (3, .ref x3), (4, .int x4)], []) σ = some r := lm_rn_of h
/-- LatticeSuiteModel.left, from 0 on -/
noncomputable def lm_q224_0 (sc : lm_H) (A : Nat → List Value → lm_M lm_R) (B : lm_F → lm_M lm_R) (x0 : Int64) (x2 : Int32) : lm_M lm_R :=
  lm_if .ne x2 0 (lm_ret (some (.long ((x0 <<< ((Int32.toInt64 x2) &&& 63)) ||| (lm_uL x0 ((Int32.ofInt 64) - x2)))))) (lm_ret (some (.long x0)))
set_option maxRecDepth 100000 in
theorem lm_e224_0 {sc : lm_H} {d : Nat} {x0 : Int64} {x2 : Int32} {σ : lm_S} {r : Except Nat lm_R × lm_S} (h : lm_q224_0 sc (lm_cal sc d) (lm_rn sc d lm_m224.2.2.2.2.1 (lm_reg lm_m224.2.2.2.2.2)) x0 x2  σ = some r) : lm_rn sc d lm_m224.2.2.2.2.1 (lm_reg lm_m224.2.2.2.2.2) (0, [(0, .long x0), (2, .int x2)], []) σ = some r := lm_rn_of h
/-- LatticeSuiteModel.turn, from 0 on -/
noncomputable def lm_q225_0 (sc : lm_H) (A : Nat → List Value → lm_M lm_R) (B : lm_F → lm_M lm_R) (x0 : Int32) (x1 : Int32) : lm_M lm_R :=
  lm_ret (some (.int ((lm_us x0 x1) ||| (x0 <<< (((Int32.ofInt 32) - x1) &&& 31)))))
set_option maxRecDepth 100000 in
theorem lm_e225_0 {sc : lm_H} {d : Nat} {x0 : Int32} {x1 : Int32} {σ : lm_S} {r : Except Nat lm_R × lm_S} (h : lm_q225_0 sc (lm_cal sc d) (lm_rn sc d lm_m225.2.2.2.2.1 (lm_reg lm_m225.2.2.2.2.2)) x0 x1  σ = some r) : lm_rn sc d lm_m225.2.2.2.2.1 (lm_reg lm_m225.2.2.2.2.2) (0, [(0, .int x0), (1, .int x1)], []) σ = some r := lm_rn_of h
/-- LatticeSuiteModel.right, from 0 on -/
noncomputable def lm_q226_0 (sc : lm_H) (A : Nat → List Value → lm_M lm_R) (B : lm_F → lm_M lm_R) (x0 : Int64) (x2 : Int32) : lm_M lm_R :=
  lm_ret (some (.long ((lm_uL x0 x2) ||| (x0 <<< ((Int32.toInt64 ((Int32.ofInt 64) - x2)) &&& 63)))))
set_option maxRecDepth 100000 in
theorem lm_e226_0 {sc : lm_H} {d : Nat} {x0 : Int64} {x2 : Int32} {σ : lm_S} {r : Except Nat lm_R × lm_S} (h : lm_q226_0 sc (lm_cal sc d) (lm_rn sc d lm_m226.2.2.2.2.1 (lm_reg lm_m226.2.2.2.2.2)) x0 x2  σ = some r) : lm_rn sc d lm_m226.2.2.2.2.1 (lm_reg lm_m226.2.2.2.2.2) (0, [(0, .long x0), (2, .int x2)], []) σ = some r := lm_rn_of h
/-- LatticeSuite$Bits.unpack, from 0 on -/
noncomputable def lm_q227_0 (sc : lm_H) (A : Nat → List Value → lm_M lm_R) (B : lm_F → lm_M lm_R) (x0 : Nat) (x1 : Int32) (x2 : Int32) (x3 : Nat) : lm_M lm_R :=
  B (19, [(0, .ref x0), (2, .int x2), (3, .ref x3), (4, .int (Int32.ofInt 0)), (5, .int (Int32.ofInt 0)), (6, .int x1), (7, .int (((Int32.ofInt 1) <<< (x2 &&& 31)) - (Int32.ofInt 1))), (8, .int (Int32.ofInt 0))], [])
set_option maxRecDepth 100000 in
theorem lm_e227_0 {sc : lm_H} {d : Nat} {x0 : Nat} {x1 : Int32} {x2 : Int32} {x3 : Nat} {σ : lm_S} {r : Except Nat lm_R × lm_S} (h : lm_q227_0 sc (lm_cal sc d) (lm_rn sc d lm_m227.2.2.2.2.1 (lm_reg lm_m227.2.2.2.2.2)) x0 x1 x2 x3  σ = some r) : lm_rn sc d lm_m227.2.2.2.2.1 (lm_reg lm_m227.2.2.2.2.2) (0, [(0, .ref x0), (1, .int x1), (2, .int x2), (3, .ref x3)], []) σ = some r := lm_rn_of h
/-- LatticeSuite$Bits.unpack, from 19 on -/
noncomputable def lm_q227_19 (sc : lm_H) (A : Nat → List Value → lm_M lm_R) (B : lm_F → lm_M lm_R) (x0 : Nat) (x2 : Int32) (x3 : Nat) (x4 : Int32) (x5 : Int32) (x6 : Int32) (x7 : Int32) (x8 : Int32) : lm_M lm_R :=
  lm_bind (lm_alen sc x3) fun v1 =>
  lm_if .ge x8 v1 (lm_ret none) (B (26, [(0, .ref x0), (2, .int x2), (3, .ref x3), (4, .int x4), (5, .int x5), (6, .int x6), (7, .int x7), (8, .int x8)], []))
set_option maxRecDepth 100000 in
theorem lm_e227_19 {sc : lm_H} {d : Nat} {x0 : Nat} {x2 : Int32} {x3 : Nat} {x4 : Int32} {x5 : Int32} {x6 : Int32} {x7 : Int32} {x8 : Int32} {σ : lm_S} {r : Except Nat lm_R × lm_S} (h : lm_q227_19 sc (lm_cal sc d) (lm_rn sc d lm_m227.2.2.2.2.1 (lm_reg lm_m227.2.2.2.2.2)) x0 x2 x3 x4 x5 x6 x7 x8  σ = some r) : lm_rn sc d lm_m227.2.2.2.2.1 (lm_reg lm_m227.2.2.2.2.2) (19, [(0, .ref x0), (2, .int x2), (3, .ref x3), (4, .int x4), (5, .int x5), (6, .int x6), (7, .int x7), (8, .int x8)], []) σ = some r := lm_rn_of h
/-- LatticeSuite$Bits.unpack, from 26 on -/
noncomputable def lm_q227_26 (sc : lm_H) (A : Nat → List Value → lm_M lm_R) (B : lm_F → lm_M lm_R) (x0 : Nat) (x2 : Int32) (x3 : Nat) (x4 : Int32) (x5 : Int32) (x6 : Int32) (x7 : Int32) (x8 : Int32) : lm_M lm_R :=
  lm_if .ge x5 x2 (lm_bind (lm_iast x3 x8 (x4 &&& x7)) fun _ =>
  B (19, [(0, .ref x0), (2, .int x2), (3, .ref x3), (4, .int (lm_us x4 x2)), (5, .int (x5 - x2)), (6, .int x6), (7, .int x7), (8, .int (x8 + Int32.ofInt 1))], [])) (lm_bind (lm_bald sc x0 x6) fun v1 =>
  B (26, [(0, .ref x0), (2, .int x2), (3, .ref x3), (4, .int (x4 ||| ((v1 &&& (Int32.ofInt 255)) <<< (x5 &&& 31)))), (5, .int (x5 + Int32.ofInt 8)), (6, .int (x6 + Int32.ofInt 1)), (7, .int x7), (8, .int x8)], []))
set_option maxRecDepth 100000 in
theorem lm_e227_26 {sc : lm_H} {d : Nat} {x0 : Nat} {x2 : Int32} {x3 : Nat} {x4 : Int32} {x5 : Int32} {x6 : Int32} {x7 : Int32} {x8 : Int32} {σ : lm_S} {r : Except Nat lm_R × lm_S} (h : lm_q227_26 sc (lm_cal sc d) (lm_rn sc d lm_m227.2.2.2.2.1 (lm_reg lm_m227.2.2.2.2.2)) x0 x2 x3 x4 x5 x6 x7 x8  σ = some r) : lm_rn sc d lm_m227.2.2.2.2.1 (lm_reg lm_m227.2.2.2.2.2) (26, [(0, .ref x0), (2, .int x2), (3, .ref x3), (4, .int x4), (5, .int x5), (6, .int x6), (7, .int x7), (8, .int x8)], []) σ = some r := lm_rn_of h
/-- LatticeSuite$Kem.encrypt, from 0 on -/
noncomputable def lm_q228_0 (sc : lm_H) (A : Nat → List Value → lm_M lm_R) (B : lm_F → lm_M lm_R) (x0 : Nat) (x1 : Nat) (x2 : Int32) (x3 : Nat) : lm_M lm_R :=
  lm_bind (lm_gI 3248 x0) fun v1 =>
  lm_bind (lm_sel [(8, 216)] (some (.ref x0))) fun y2 =>
  lm_bind (lm_asV (A y2 [.ref x0, .ref x1, .int (x2 + ((Int32.ofInt 384) * v1))])) fun _ =>
  B (18, [(0, .ref x0), (1, .ref x1), (2, .int x2), (3, .ref x3), (4, .int (Int32.ofInt 0))], [])
set_option maxRecDepth 100000 in
theorem lm_e228_0 {sc : lm_H} {d : Nat} {x0 : Nat} {x1 : Nat} {x2 : Int32} {x3 : Nat} {σ : lm_S} {r : Except Nat lm_R × lm_S} (h : lm_q228_0 sc (lm_cal sc d) (lm_rn sc d lm_m228.2.2.2.2.1 (lm_reg lm_m228.2.2.2.2.2)) x0 x1 x2 x3  σ = some r) : lm_rn sc d lm_m228.2.2.2.2.1 (lm_reg lm_m228.2.2.2.2.2) (0, [(0, .ref x0), (1, .ref x1), (2, .int x2), (3, .ref x3)], []) σ = some r := lm_rn_of h
/-- LatticeSuite$Kem.encrypt, from 18 on -/
noncomputable def lm_q228_18 (sc : lm_H) (A : Nat → List Value → lm_M lm_R) (B : lm_F → lm_M lm_R) (x0 : Nat) (x1 : Nat) (x2 : Int32) (x3 : Nat) (x4 : Int32) : lm_M lm_R :=
  lm_bind (lm_gI 3248 x0) fun v1 =>
  lm_if .ge x4 v1 (B (64, [(0, .ref x0), (1, .ref x1), (2, .int x2), (3, .ref x3), (4, .int (Int32.ofInt 0))], [])) (lm_bind (lm_gR 3218 x0) fun v2 =>
  lm_bind (lm_aaR sc v2 x4) fun v3 =>
  lm_bind (lm_gI 3252 x0) fun v4 =>
  lm_bind (lm_sel [(8, 217)] (some (.ref x0))) fun y5 =>
  lm_bind (lm_asV (A y5 [.ref x0, .ref v3, .int x4, .int v4])) fun _ =>
  lm_bind (lm_gR 3218 x0) fun v6 =>
  lm_bind (lm_aaR sc v6 x4) fun v7 =>
  lm_bind (lm_sel [(8, 218)] (some (.ref x0))) fun y8 =>
  lm_bind (lm_asV (A y8 [.ref x0, .ref v7])) fun _ =>
  B (18, [(0, .ref x0), (1, .ref x1), (2, .int x2), (3, .ref x3), (4, .int (x4 + Int32.ofInt 1))], []))
set_option maxRecDepth 100000 in
theorem lm_e228_18 {sc : lm_H} {d : Nat} {x0 : Nat} {x1 : Nat} {x2 : Int32} {x3 : Nat} {x4 : Int32} {σ : lm_S} {r : Except Nat lm_R × lm_S} (h : lm_q228_18 sc (lm_cal sc d) (lm_rn sc d lm_m228.2.2.2.2.1 (lm_reg lm_m228.2.2.2.2.2)) x0 x1 x2 x3 x4  σ = some r) : lm_rn sc d lm_m228.2.2.2.2.1 (lm_reg lm_m228.2.2.2.2.2) (18, [(0, .ref x0), (1, .ref x1), (2, .int x2), (3, .ref x3), (4, .int x4)], []) σ = some r := lm_rn_of h
/-- LatticeSuite$Kem.encrypt, from 64 on -/
noncomputable def lm_q228_64 (sc : lm_H) (A : Nat → List Value → lm_M lm_R) (B : lm_F → lm_M lm_R) (x0 : Nat) (x1 : Nat) (x2 : Int32) (x3 : Nat) (x4 : Int32) : lm_M lm_R :=
  lm_bind (lm_gI 3248 x0) fun v1 =>
  lm_if .ge x4 v1 (lm_bind (lm_gR 3222 x0) fun v2 =>
  lm_bind (lm_asV (A 287 [.ref v2, .int (Int32.ofInt 0)])) fun _ =>
  B (168, [(0, .ref x0), (1, .ref x1), (2, .int x2), (3, .ref x3), (4, .int (Int32.ofInt 0))], [])) (lm_bind (lm_gR 3222 x0) fun v3 =>
  lm_bind (lm_asV (A 287 [.ref v3, .int (Int32.ofInt 0)])) fun _ =>
  B (84, [(0, .ref x0), (1, .ref x1), (2, .int x2), (3, .ref x3), (4, .int x4), (5, .int (Int32.ofInt 0))], []))
set_option maxRecDepth 100000 in
theorem lm_e228_64 {sc : lm_H} {d : Nat} {x0 : Nat} {x1 : Nat} {x2 : Int32} {x3 : Nat} {x4 : Int32} {σ : lm_S} {r : Except Nat lm_R × lm_S} (h : lm_q228_64 sc (lm_cal sc d) (lm_rn sc d lm_m228.2.2.2.2.1 (lm_reg lm_m228.2.2.2.2.2)) x0 x1 x2 x3 x4  σ = some r) : lm_rn sc d lm_m228.2.2.2.2.1 (lm_reg lm_m228.2.2.2.2.2) (64, [(0, .ref x0), (1, .ref x1), (2, .int x2), (3, .ref x3), (4, .int x4)], []) σ = some r := lm_rn_of h
/-- LatticeSuite$Kem.encrypt, from 168 on -/
noncomputable def lm_q228_168 (sc : lm_H) (A : Nat → List Value → lm_M lm_R) (B : lm_F → lm_M lm_R) (x0 : Nat) (x1 : Nat) (x2 : Int32) (x3 : Nat) (x4 : Int32) : lm_M lm_R :=
  lm_bind (lm_gI 3248 x0) fun v1 =>
  lm_if .ge x4 v1 (lm_bind (lm_gI 3248 x0) fun v2 =>
  lm_bind (lm_gI 3260 x0) fun v3 =>
  lm_bind (lm_gI 3256 x0) fun v4 =>
  lm_bind (lm_gI 3248 x0) fun v5 =>
  lm_bind (lm_sel [(8, 288)] (some (.ref x0))) fun y6 =>
  lm_bind (lm_asV (A y6 [.ref x0, .int ((Int32.ofInt 2) * v2), .int v3, .int (((Int32.ofInt 32) * v4) * v5), .ref x3])) fun _ =>
  lm_ret none) (lm_bind (lm_gR 3226 x0) fun v7 =>
  lm_bind (lm_asV (A 227 [.ref x1, .int (x2 + ((Int32.ofInt 384) * x4)), .int (Int32.ofInt 12), .ref v7])) fun _ =>
  lm_bind (lm_gR 3226 x0) fun v8 =>
  lm_bind (lm_gR 3218 x0) fun v9 =>
  lm_bind (lm_aaR sc v9 x4) fun v10 =>
  lm_bind (lm_sel [(8, 220)] (some (.ref x0))) fun y11 =>
  lm_bind (lm_asV (A y11 [.ref x0, .ref v8, .ref v10])) fun _ =>
  B (168, [(0, .ref x0), (1, .ref x1), (2, .int x2), (3, .ref x3), (4, .int (x4 + Int32.ofInt 1))], []))
set_option maxRecDepth 100000 in
theorem lm_e228_168 {sc : lm_H} {d : Nat} {x0 : Nat} {x1 : Nat} {x2 : Int32} {x3 : Nat} {x4 : Int32} {σ : lm_S} {r : Except Nat lm_R × lm_S} (h : lm_q228_168 sc (lm_cal sc d) (lm_rn sc d lm_m228.2.2.2.2.1 (lm_reg lm_m228.2.2.2.2.2)) x0 x1 x2 x3 x4  σ = some r) : lm_rn sc d lm_m228.2.2.2.2.1 (lm_reg lm_m228.2.2.2.2.2) (168, [(0, .ref x0), (1, .ref x1), (2, .int x2), (3, .ref x3), (4, .int x4)], []) σ = some r := lm_rn_of h
/-- LatticeSuite$Kem.encrypt, from 84 on -/
noncomputable def lm_q228_84 (sc : lm_H) (A : Nat → List Value → lm_M lm_R) (B : lm_F → lm_M lm_R) (x0 : Nat) (x1 : Nat) (x2 : Int32) (x3 : Nat) (x4 : Int32) (x5 : Int32) : lm_M lm_R :=
  lm_bind (lm_gI 3248 x0) fun v1 =>
  lm_if .ge x5 v1 (lm_bind (lm_gI 3248 x0) fun v2 =>
  lm_bind (lm_gI 3256 x0) fun v3 =>
  lm_bind (lm_gI 3256 x0) fun v4 =>
  lm_bind (lm_sel [(8, 288)] (some (.ref x0))) fun y5 =>
  lm_bind (lm_asV (A y5 [.ref x0, .int (v2 + x4), .int v3, .int (((Int32.ofInt 32) * v4) * x4), .ref x3])) fun _ =>
  B (64, [(0, .ref x0), (1, .ref x1), (2, .int x2), (3, .ref x3), (4, .int (x4 + Int32.ofInt 1))], [])) (lm_bind (lm_gR 3214 x0) fun v6 =>
  lm_bind (lm_gI 3248 x0) fun v7 =>
  lm_bind (lm_aaR sc v6 ((x5 * v7) + x4)) fun v8 =>
  lm_bind (lm_gR 3218 x0) fun v9 =>
  lm_bind (lm_aaR sc v9 x5) fun v10 =>
  lm_bind (lm_sel [(8, 220)] (some (.ref x0))) fun y11 =>
  lm_bind (lm_asV (A y11 [.ref x0, .ref v8, .ref v10])) fun _ =>
  B (84, [(0, .ref x0), (1, .ref x1), (2, .int x2), (3, .ref x3), (4, .int x4), (5, .int (x5 + Int32.ofInt 1))], []))
set_option maxRecDepth 100000 in
theorem lm_e228_84 {sc : lm_H} {d : Nat} {x0 : Nat} {x1 : Nat} {x2 : Int32} {x3 : Nat} {x4 : Int32} {x5 : Int32} {σ : lm_S} {r : Except Nat lm_R × lm_S} (h : lm_q228_84 sc (lm_cal sc d) (lm_rn sc d lm_m228.2.2.2.2.1 (lm_reg lm_m228.2.2.2.2.2)) x0 x1 x2 x3 x4 x5  σ = some r) : lm_rn sc d lm_m228.2.2.2.2.1 (lm_reg lm_m228.2.2.2.2.2) (84, [(0, .ref x0), (1, .ref x1), (2, .int x2), (3, .ref x3), (4, .int x4), (5, .int x5)], []) σ = some r := lm_rn_of h
/-- LatticeSuite$Kem.packetSize, from 0 on -/
noncomputable def lm_q229_0 (sc : lm_H) (A : Nat → List Value → lm_M lm_R) (B : lm_F → lm_M lm_R) (x0 : Nat) : lm_M lm_R :=
  lm_bind (lm_gI 3256 x0) fun v1 =>
  lm_bind (lm_gI 3248 x0) fun v2 =>
  lm_bind (lm_gI 3260 x0) fun v3 =>
  lm_ret (some (.int ((Int32.ofInt 32) * ((v1 * v2) + v3))))
set_option maxRecDepth 100000 in
theorem lm_e229_0 {sc : lm_H} {d : Nat} {x0 : Nat} {σ : lm_S} {r : Except Nat lm_R × lm_S} (h : lm_q229_0 sc (lm_cal sc d) (lm_rn sc d lm_m229.2.2.2.2.1 (lm_reg lm_m229.2.2.2.2.2)) x0  σ = some r) : lm_rn sc d lm_m229.2.2.2.2.1 (lm_reg lm_m229.2.2.2.2.2) (0, [(0, .ref x0)], []) σ = some r := lm_rn_of h
/-- LatticeSuite$Kem.decrypt, from 0 on -/
noncomputable def lm_q230_0 (sc : lm_H) (A : Nat → List Value → lm_M lm_R) (B : lm_F → lm_M lm_R) (x0 : Nat) (x1 : Nat) (x2 : Nat) : lm_M lm_R :=
  lm_bind (lm_gR 3222 x0) fun v1 =>
  lm_bind (lm_asV (A 287 [.ref v1, .int (Int32.ofInt 0)])) fun _ =>
  B (10, [(0, .ref x0), (1, .ref x1), (2, .ref x2), (3, .int (Int32.ofInt 0))], [])
set_option maxRecDepth 100000 in
theorem lm_e230_0 {sc : lm_H} {d : Nat} {x0 : Nat} {x1 : Nat} {x2 : Nat} {σ : lm_S} {r : Except Nat lm_R × lm_S} (h : lm_q230_0 sc (lm_cal sc d) (lm_rn sc d lm_m230.2.2.2.2.1 (lm_reg lm_m230.2.2.2.2.2)) x0 x1 x2  σ = some r) : lm_rn sc d lm_m230.2.2.2.2.1 (lm_reg lm_m230.2.2.2.2.2) (0, [(0, .ref x0), (1, .ref x1), (2, .ref x2)], []) σ = some r := lm_rn_of h
/-- LatticeSuite$Kem.decrypt, from 10 on -/
noncomputable def lm_q230_10 (sc : lm_H) (A : Nat → List Value → lm_M lm_R) (B : lm_F → lm_M lm_R) (x0 : Nat) (x1 : Nat) (x2 : Nat) (x3 : Int32) : lm_M lm_R :=
  lm_bind (lm_gI 3248 x0) fun v1 =>
  lm_if .ge x3 v1 (lm_bind (lm_gR 3222 x0) fun v2 =>
  lm_bind (lm_asV (A 221 [.ref v2])) fun _ =>
  lm_bind (lm_gR 3222 x0) fun v3 =>
  lm_bind (lm_sel [(8, 290)] (some (.ref x0))) fun y4 =>
  lm_bind (lm_asV (A y4 [.ref x0, .ref v3])) fun _ =>
  lm_bind (lm_gI 3256 x0) fun v5 =>
  lm_bind (lm_gI 3248 x0) fun v6 =>
  lm_bind (lm_gI 3260 x0) fun v7 =>
  lm_bind (lm_gR 3226 x0) fun v8 =>
  lm_bind (lm_asV (A 227 [.ref x2, .int (((Int32.ofInt 32) * v5) * v6), .int v7, .ref v8])) fun _ =>
  B (163, [(0, .ref x0), (3, .int (Int32.ofInt 0))], [])) (lm_bind (lm_gI 3256 x0) fun v9 =>
  lm_bind (lm_gI 3256 x0) fun v10 =>
  lm_bind (lm_gR 3226 x0) fun v11 =>
  lm_bind (lm_asV (A 227 [.ref x2, .int (((Int32.ofInt 32) * v9) * x3), .int v10, .ref v11])) fun _ =>
  B (42, [(0, .ref x0), (1, .ref x1), (2, .ref x2), (3, .int x3), (4, .int (Int32.ofInt 0))], []))
set_option maxRecDepth 100000 in
theorem lm_e230_10 {sc : lm_H} {d : Nat} {x0 : Nat} {x1 : Nat} {x2 : Nat} {x3 : Int32} {σ : lm_S} {r : Except Nat lm_R × lm_S} (h : lm_q230_10 sc (lm_cal sc d) (lm_rn sc d lm_m230.2.2.2.2.1 (lm_reg lm_m230.2.2.2.2.2)) x0 x1 x2 x3  σ = some r) : lm_rn sc d lm_m230.2.2.2.2.1 (lm_reg lm_m230.2.2.2.2.2) (10, [(0, .ref x0), (1, .ref x1), (2, .ref x2), (3, .int x3)], []) σ = some r := lm_rn_of h
/-- LatticeSuite$Kem.decrypt, from 163 on -/
noncomputable def lm_q230_163 (sc : lm_H) (A : Nat → List Value → lm_M lm_R) (B : lm_F → lm_M lm_R) (x0 : Nat) (x3 : Int32) : lm_M lm_R :=
  lm_if .ge x3 (Int32.ofInt 256) (lm_bind (lm_gR 3222 x0) fun v1 =>
  lm_bind (lm_gR 3242 x0) fun v2 =>
  lm_bind (lm_asV (A 219 [.ref v1, .int (Int32.ofInt 1), .ref v2, .int (Int32.ofInt 0)])) fun _ =>
  lm_ret none) (lm_bind (lm_gR 3222 x0) fun v3 =>
  lm_bind (lm_gR 3226 x0) fun v4 =>
  lm_bind (lm_iald sc v4 x3) fun v5 =>
  lm_bind (lm_gI 3260 x0) fun v6 =>
  lm_bind (lm_asI (A 289 [.int v5, .int v6])) fun v7 =>
  lm_bind (lm_gR 3222 x0) fun v8 =>
  lm_bind (lm_iald sc v8 x3) fun v9 =>
  lm_bind (lm_asI (A 286 [.int (v7 - v9), .int (Int32.ofInt 3329)])) fun v10 =>
  lm_bind (lm_asI (A 291 [.int v10, .int (Int32.ofInt 1)])) fun v11 =>
  lm_bind (lm_iast v3 x3 v11) fun _ =>
  B (163, [(0, .ref x0), (3, .int (x3 + Int32.ofInt 1))], []))
set_option maxRecDepth 100000 in
theorem lm_e230_163 {sc : lm_H} {d : Nat} {x0 : Nat} {x3 : Int32} {σ : lm_S} {r : Except Nat lm_R × lm_S} (h : lm_q230_163 sc (lm_cal sc d) (lm_rn sc d lm_m230.2.2.2.2.1 (lm_reg lm_m230.2.2.2.2.2)) x0 x3  σ = some r) : lm_rn sc d lm_m230.2.2.2.2.1 (lm_reg lm_m230.2.2.2.2.2) (163, [(0, .ref x0), (3, .int x3)], []) σ = some r := lm_rn_of h
/-- LatticeSuite$Kem.decrypt, from 42 on -/
noncomputable def lm_q230_42 (sc : lm_H) (A : Nat → List Value → lm_M lm_R) (B : lm_F → lm_M lm_R) (x0 : Nat) (x1 : Nat) (x2 : Nat) (x3 : Int32) (x4 : Int32) : lm_M lm_R :=
  lm_if .ge x4 (Int32.ofInt 256) (lm_bind (lm_gR 3226 x0) fun v1 =>
  lm_bind (lm_sel [(8, 218)] (some (.ref x0))) fun y2 =>
  lm_bind (lm_asV (A y2 [.ref x0, .ref v1])) fun _ =>
  lm_bind (lm_gR 3218 x0) fun v3 =>
  lm_bind (lm_aaR sc v3 x3) fun v4 =>
  lm_bind (lm_asV (A 227 [.ref x1, .int ((Int32.ofInt 384) * x3), .int (Int32.ofInt 12), .ref v4])) fun _ =>
  lm_bind (lm_gR 3218 x0) fun v5 =>
  lm_bind (lm_aaR sc v5 x3) fun v6 =>
  lm_bind (lm_gR 3226 x0) fun v7 =>
  lm_bind (lm_sel [(8, 220)] (some (.ref x0))) fun y8 =>
  lm_bind (lm_asV (A y8 [.ref x0, .ref v6, .ref v7])) fun _ =>
  B (10, [(0, .ref x0), (1, .ref x1), (2, .ref x2), (3, .int (x3 + Int32.ofInt 1))], [])) (lm_bind (lm_gR 3226 x0) fun v9 =>
  lm_bind (lm_gR 3226 x0) fun v10 =>
  lm_bind (lm_iald sc v10 x4) fun v11 =>
  lm_bind (lm_gI 3256 x0) fun v12 =>
  lm_bind (lm_asI (A 289 [.int v11, .int v12])) fun v13 =>
  lm_bind (lm_iast v9 x4 v13) fun _ =>
  B (42, [(0, .ref x0), (1, .ref x1), (2, .ref x2), (3, .int x3), (4, .int (x4 + Int32.ofInt 1))], []))
set_option maxRecDepth 100000 in
theorem lm_e230_42 {sc : lm_H} {d : Nat} {x0 : Nat} {x1 : Nat} {x2 : Nat} {x3 : Int32} {x4 : Int32} {σ : lm_S} {r : Except Nat lm_R × lm_S} (h : lm_q230_42 sc (lm_cal sc d) (lm_rn sc d lm_m230.2.2.2.2.1 (lm_reg lm_m230.2.2.2.2.2)) x0 x1 x2 x3 x4  σ = some r) : lm_rn sc d lm_m230.2.2.2.2.1 (lm_reg lm_m230.2.2.2.2.2) (42, [(0, .ref x0), (1, .ref x1), (2, .ref x2), (3, .int x3), (4, .int x4)], []) σ = some r := lm_rn_of h
/-- LatticeSuite$Dsa.expandSeeds, from 0 on -/
noncomputable def lm_q231_0 (sc : lm_H) (A : Nat → List Value → lm_M lm_R) (B : lm_F → lm_M lm_R) (x0 : Nat) (x1 : Nat) : lm_M lm_R :=
  lm_bind (lm_gR 3654 x0) fun v1 =>
  lm_bind (lm_copy sc x1 (Int32.ofInt 0) v1 (Int32.ofInt 0) (Int32.ofInt 32)) fun _ =>
  lm_bind (lm_gR 3654 x0) fun v2 =>
  lm_bind (lm_gI 3672 x0) fun v3 =>
  lm_bind (lm_bast v2 (Int32.ofInt 32) (lm_b8 v3)) fun _ =>
  lm_bind (lm_gR 3654 x0) fun v4 =>
  lm_bind (lm_gI 3676 x0) fun v5 =>
  lm_bind (lm_bast v4 (Int32.ofInt 33) (lm_b8 v5)) fun _ =>
  lm_bind (lm_gR 3602 x0) fun v6 =>
  lm_bind (lm_sel [(2, 139)] (some (.ref v6))) fun y7 =>
  lm_bind (lm_asR (A y7 [.ref v6, .int (Int32.ofInt 12)])) fun v8 =>
  lm_bind (lm_gR 3654 x0) fun v9 =>
  lm_bind (lm_sel [(5, 140), (6, 140), (7, 140)] (some (.ref v8))) fun y10 =>
  lm_bind (lm_asV (A y10 [.ref v8, .ref v9, .int (Int32.ofInt 0), .int (Int32.ofInt 34)])) fun _ =>
  lm_bind (lm_gR 3650 x0) fun v11 =>
  lm_bind (lm_sel [(5, 143), (6, 144), (7, 145)] (some (.ref v8))) fun y12 =>
  lm_bind (lm_asV (A y12 [.ref v8, .ref v11, .int (Int32.ofInt 0), .int (Int32.ofInt 128)])) fun _ =>
  lm_ret none
set_option maxRecDepth 100000 in
theorem lm_e231_0 {sc : lm_H} {d : Nat} {x0 : Nat} {x1 : Nat} {σ : lm_S} {r : Except Nat lm_R × lm_S} (h : lm_q231_0 sc (lm_cal sc d) (lm_rn sc d lm_m231.2.2.2.2.1 (lm_reg lm_m231.2.2.2.2.2)) x0 x1  σ = some r) : lm_rn sc d lm_m231.2.2.2.2.1 (lm_reg lm_m231.2.2.2.2.2) (0, [(0, .ref x0), (1, .ref x1)], []) σ = some r := lm_rn_of h
/-- LatticeSuite$Dsa.expand, from 0 on -/
noncomputable def lm_q232_0 (sc : lm_H) (A : Nat → List Value → lm_M lm_R) (B : lm_F → lm_M lm_R) (x0 : Nat) (x1 : Nat) (x2 : Int32) : lm_M lm_R :=
  lm_bind (lm_gR 3654 x0) fun v1 =>
  lm_bind (lm_copy sc x1 x2 v1 (Int32.ofInt 0) (Int32.ofInt 32)) fun _ =>
  B (14, [(0, .ref x0), (3, .int (Int32.ofInt 0))], [])
set_option maxRecDepth 100000 in
theorem lm_e232_0 {sc : lm_H} {d : Nat} {x0 : Nat} {x1 : Nat} {x2 : Int32} {σ : lm_S} {r : Except Nat lm_R × lm_S} (h : lm_q232_0 sc (lm_cal sc d) (lm_rn sc d lm_m232.2.2.2.2.1 (lm_reg lm_m232.2.2.2.2.2)) x0 x1 x2  σ = some r) : lm_rn sc d lm_m232.2.2.2.2.1 (lm_reg lm_m232.2.2.2.2.2) (0, [(0, .ref x0), (1, .ref x1), (2, .int x2)], []) σ = some r := lm_rn_of h
/-- LatticeSuite$Dsa.expand, from 14 on -/
noncomputable def lm_q232_14 (sc : lm_H) (A : Nat → List Value → lm_M lm_R) (B : lm_F → lm_M lm_R) (x0 : Nat) (x3 : Int32) : lm_M lm_R :=
  lm_bind (lm_gI 3672 x0) fun v1 =>
  lm_if .ge x3 v1 (lm_ret none) (B (25, [(0, .ref x0), (3, .int x3), (4, .int (Int32.ofInt 0))], []))
set_option maxRecDepth 100000 in
theorem lm_e232_14 {sc : lm_H} {d : Nat} {x0 : Nat} {x3 : Int32} {σ : lm_S} {r : Except Nat lm_R × lm_S} (h : lm_q232_14 sc (lm_cal sc d) (lm_rn sc d lm_m232.2.2.2.2.1 (lm_reg lm_m232.2.2.2.2.2)) x0 x3  σ = some r) : lm_rn sc d lm_m232.2.2.2.2.1 (lm_reg lm_m232.2.2.2.2.2) (14, [(0, .ref x0), (3, .int x3)], []) σ = some r := lm_rn_of h
/-- LatticeSuite$Dsa.expand, from 25 on -/
noncomputable def lm_q232_25 (sc : lm_H) (A : Nat → List Value → lm_M lm_R) (B : lm_F → lm_M lm_R) (x0 : Nat) (x3 : Int32) (x4 : Int32) : lm_M lm_R :=
  lm_bind (lm_gI 3676 x0) fun v1 =>
  lm_if .ge x4 v1 (B (14, [(0, .ref x0), (3, .int (x3 + Int32.ofInt 1))], [])) (lm_bind (lm_gR 3654 x0) fun v2 =>
  lm_bind (lm_bast v2 (Int32.ofInt 32) (lm_b8 x4)) fun _ =>
  lm_bind (lm_gR 3654 x0) fun v3 =>
  lm_bind (lm_bast v3 (Int32.ofInt 33) (lm_b8 x3)) fun _ =>
  lm_bind (lm_gR 3610 x0) fun v4 =>
  lm_bind (lm_gI 3676 x0) fun v5 =>
  lm_bind (lm_aaR sc v4 ((x3 * v5) + x4)) fun v6 =>
  lm_bind (lm_sel [(9, 292)] (some (.ref x0))) fun y7 =>
  lm_bind (lm_asV (A y7 [.ref x0, .ref v6])) fun _ =>
  B (25, [(0, .ref x0), (3, .int x3), (4, .int (x4 + Int32.ofInt 1))], []))
set_option maxRecDepth 100000 in
theorem lm_e232_25 {sc : lm_H} {d : Nat} {x0 : Nat} {x3 : Int32} {x4 : Int32} {σ : lm_S} {r : Except Nat lm_R × lm_S} (h : lm_q232_25 sc (lm_cal sc d) (lm_rn sc d lm_m232.2.2.2.2.1 (lm_reg lm_m232.2.2.2.2.2)) x0 x3 x4  σ = some r) : lm_rn sc d lm_m232.2.2.2.2.1 (lm_reg lm_m232.2.2.2.2.2) (25, [(0, .ref x0), (3, .int x3), (4, .int x4)], []) σ = some r := lm_rn_of h
/-- LatticeSuite$Dsa.sampleSmall, from 0 on -/
noncomputable def lm_q233_0 (sc : lm_H) (A : Nat → List Value → lm_M lm_R) (B : lm_F → lm_M lm_R) (x0 : Nat) (x1 : Nat) (x2 : Int32) : lm_M lm_R :=
  lm_bind (lm_gR 3650 x0) fun v1 =>
  lm_bind (lm_gR 3654 x0) fun v2 =>
  lm_bind (lm_copy sc v1 (Int32.ofInt 32) v2 (Int32.ofInt 0) (Int32.ofInt 64)) fun _ =>
  lm_bind (lm_gR 3654 x0) fun v3 =>
  lm_bind (lm_bast v3 (Int32.ofInt 64) (lm_b8 x2)) fun _ =>
  lm_bind (lm_gR 3654 x0) fun v4 =>
  lm_bind (lm_bast v4 (Int32.ofInt 65) (lm_b8 (x2 >>> ((Int32.ofInt 8) &&& 31)))) fun _ =>
  lm_bind (lm_gR 3602 x0) fun v5 =>
  lm_bind (lm_gR 802 v5) fun v6 =>
  lm_bind (lm_sel [(5, 200)] (some (.ref v6))) fun y7 =>
  lm_bind (lm_asV (A y7 [.ref v6, .int (Int32.ofInt 12)])) fun _ =>
  lm_bind (lm_gR 3654 x0) fun v8 =>
  lm_bind (lm_sel [(5, 140)] (some (.ref v6))) fun y9 =>
  lm_bind (lm_asV (A y9 [.ref v6, .ref v8, .int (Int32.ofInt 0), .int (Int32.ofInt 66)])) fun _ =>
  lm_bind (lm_gR 3646 x0) fun v10 =>
  lm_bind (lm_sel [(5, 143)] (some (.ref v6))) fun y11 =>
  lm_bind (lm_asV (A y11 [.ref v6, .ref v10, .int (Int32.ofInt 0), .int (Int32.ofInt 136)])) fun _ =>
  B (80, [(0, .ref x0), (1, .ref x1), (3, .ref v6), (4, .int (Int32.ofInt 0)), (5, .int (Int32.ofInt 0))], [])
set_option maxRecDepth 100000 in
theorem lm_e233_0 {sc : lm_H} {d : Nat} {x0 : Nat} {x1 : Nat} {x2 : Int32} {σ : lm_S} {r : Except Nat lm_R × lm_S} (h : lm_q233_0 sc (lm_cal sc d) (lm_rn sc d lm_m233.2.2.2.2.1 (lm_reg lm_m233.2.2.2.2.2)) x0 x1 x2  σ = some r) : lm_rn sc d lm_m233.2.2.2.2.1 (lm_reg lm_m233.2.2.2.2.2) (0, [(0, .ref x0), (1, .ref x1), (2, .int x2)], []) σ = some r := lm_rn_of h
/-- LatticeSuite$Dsa.sampleSmall, from 80 on -/
noncomputable def lm_q233_80 (sc : lm_H) (A : Nat → List Value → lm_M lm_R) (B : lm_F → lm_M lm_R) (x0 : Nat) (x1 : Nat) (x3 : Nat) (x4 : Int32) (x5 : Int32) : lm_M lm_R :=
  lm_if .ge x5 (Int32.ofInt 962) (B (205, [(4, .int x4)], [])) (lm_if .ge x4 (Int32.ofInt 256) (B (205, [(4, .int x4)], [])) (lm_when (¬ (Int32.ofInt 272) = 0) inferInstance (lm_if .ne (lm_rem x5 (Int32.ofInt 272)) 0 (B (118, [(0, .ref x0), (1, .ref x1), (3, .ref x3), (4, .int x4), (5, .int x5)], [])) (lm_if .le x5 0 (B (118, [(0, .ref x0), (1, .ref x1), (3, .ref x3), (4, .int x4), (5, .int x5)], [])) (lm_bind (lm_gR 3646 x0) fun v1 =>
  lm_bind (lm_sel [(5, 293)] (some (.ref x3))) fun y2 =>
  lm_bind (lm_asV (A y2 [.ref x3, .ref v1])) fun _ =>
  B (118, [(0, .ref x0), (1, .ref x1), (3, .ref x3), (4, .int x4), (5, .int x5)], []))))))
set_option maxRecDepth 100000 in
theorem lm_e233_80 {sc : lm_H} {d : Nat} {x0 : Nat} {x1 : Nat} {x3 : Nat} {x4 : Int32} {x5 : Int32} {σ : lm_S} {r : Except Nat lm_R × lm_S} (h : lm_q233_80 sc (lm_cal sc d) (lm_rn sc d lm_m233.2.2.2.2.1 (lm_reg lm_m233.2.2.2.2.2)) x0 x1 x3 x4 x5  σ = some r) : lm_rn sc d lm_m233.2.2.2.2.1 (lm_reg lm_m233.2.2.2.2.2) (80, [(0, .ref x0), (1, .ref x1), (3, .ref x3), (4, .int x4), (5, .int x5)], []) σ = some r := lm_rn_of h
/-- LatticeSuite$Dsa.sampleSmall, from 205 on -/
noncomputable def lm_q233_205 (sc : lm_H) (A : Nat → List Value → lm_M lm_R) (B : lm_F → lm_M lm_R) (x4 : Int32) : lm_M lm_R :=
  lm_if .ge x4 (Int32.ofInt 256) (lm_ret none) (lm_thr 15)
set_option maxRecDepth 100000 in
theorem lm_e233_205 {sc : lm_H} {d : Nat} {x4 : Int32} {σ : lm_S} {r : Except Nat lm_R × lm_S} (h : lm_q233_205 sc (lm_cal sc d) (lm_rn sc d lm_m233.2.2.2.2.1 (lm_reg lm_m233.2.2.2.2.2)) x4  σ = some r) : lm_rn sc d lm_m233.2.2.2.2.1 (lm_reg lm_m233.2.2.2.2.2) (205, [(4, .int x4)], []) σ = some r := lm_rn_of h
/-- LatticeSuite$Dsa.sampleSmall, from 118 on -/
noncomputable def lm_q233_118 (sc : lm_H) (A : Nat → List Value → lm_M lm_R) (B : lm_F → lm_M lm_R) (x0 : Nat) (x1 : Nat) (x3 : Nat) (x4 : Int32) (x5 : Int32) : lm_M lm_R :=
  lm_bind (lm_gR 3646 x0) fun v1 =>
  lm_when (¬ (Int32.ofInt 2) = 0) inferInstance (lm_when (¬ (Int32.ofInt 136) = 0) inferInstance (lm_bind (lm_bald sc v1 (lm_rem (x5 / (Int32.ofInt 2)) (Int32.ofInt 136))) fun v2 =>
  lm_when (¬ (Int32.ofInt 2) = 0) inferInstance (lm_bind (lm_gI 3668 x0) fun v3 =>
  lm_bind (lm_iald sc (lm_B + 9) v3) fun v4 =>
  lm_if .ne v4 (Int32.ofInt 2) (B (164, [(0, .ref x0), (1, .ref x1), (3, .ref x3), (4, .int x4), (5, .int x5), (6, .int ((v2 >>> (((Int32.ofInt 4) * (lm_rem x5 (Int32.ofInt 2))) &&& 31)) &&& (Int32.ofInt 15)))], [.int (Int32.ofInt 9), .int ((v2 >>> (((Int32.ofInt 4) * (lm_rem x5 (Int32.ofInt 2))) &&& 31)) &&& (Int32.ofInt 15))])) (B (164, [(0, .ref x0), (1, .ref x1), (3, .ref x3), (4, .int x4), (5, .int x5), (6, .int ((v2 >>> (((Int32.ofInt 4) * (lm_rem x5 (Int32.ofInt 2))) &&& 31)) &&& (Int32.ofInt 15)))], [.int (Int32.ofInt 15), .int ((v2 >>> (((Int32.ofInt 4) * (lm_rem x5 (Int32.ofInt 2))) &&& 31)) &&& (Int32.ofInt 15))])))))
set_option maxRecDepth 100000 in
theorem lm_e233_118 {sc : lm_H} {d : Nat} {x0 : Nat} {x1 : Nat} {x3 : Nat} {x4 : Int32} {x5 : Int32} {σ : lm_S} {r : Except Nat lm_R × lm_S} (h : lm_q233_118 sc (lm_cal sc d) (lm_rn sc d lm_m233.2.2.2.2.1 (lm_reg lm_m233.2.2.2.2.2)) x0 x1 x3 x4 x5  σ = some r) : lm_rn sc d lm_m233.2.2.2.2.1 (lm_reg lm_m233.2.2.2.2.2) (118, [(0, .ref x0), (1, .ref x1), (3, .ref x3), (4, .int x4), (5, .int x5)], []) σ = some r := lm_rn_of h
/-- LatticeSuite$Dsa.sampleSmall, from 164 on -/
noncomputable def lm_q233_164 (sc : lm_H) (A : Nat → List Value → lm_M lm_R) (B : lm_F → lm_M lm_R) (x0 : Nat) (x1 : Nat) (x3 : Nat) (x4 : Int32) (x5 : Int32) (x6 : Int32) (s0 : Int32) (s1 : Int32) : lm_M lm_R :=
  lm_if .ge s1 s0 (B (199, [(0, .ref x0), (1, .ref x1), (3, .ref x3), (4, .int x4), (5, .int x5)], [])) (lm_bind (lm_gI 3668 x0) fun v1 =>
  lm_bind (lm_iald sc (lm_B + 9) v1) fun v2 =>
  lm_if .ne v2 (Int32.ofInt 2) (B (198, [(0, .ref x0), (1, .ref x1), (3, .ref x3), (4, .int (x4 + Int32.ofInt 1)), (5, .int x5)], [.int ((Int32.ofInt 4) - x6), .int x4, .ref x1])) (lm_when (¬ (Int32.ofInt 5) = 0) inferInstance (B (198, [(0, .ref x0), (1, .ref x1), (3, .ref x3), (4, .int (x4 + Int32.ofInt 1)), (5, .int x5)], [.int ((Int32.ofInt 2) - (lm_rem x6 (Int32.ofInt 5))), .int x4, .ref x1]))))
set_option maxRecDepth 100000 in
theorem lm_e233_164 {sc : lm_H} {d : Nat} {x0 : Nat} {x1 : Nat} {x3 : Nat} {x4 : Int32} {x5 : Int32} {x6 : Int32} {s0 : Int32} {s1 : Int32} {σ : lm_S} {r : Except Nat lm_R × lm_S} (h : lm_q233_164 sc (lm_cal sc d) (lm_rn sc d lm_m233.2.2.2.2.1 (lm_reg lm_m233.2.2.2.2.2)) x0 x1 x3 x4 x5 x6 s0 s1 σ = some r) : lm_rn sc d lm_m233.2.2.2.2.1 (lm_reg lm_m233.2.2.2.2.2) (164, [(0, .ref x0), (1, .ref x1), (3, .ref x3), (4, .int x4), (5, .int x5), (6, .int x6)], [.int s0, .int s1]) σ = some r := lm_rn_of h
/-- LatticeSuite$Dsa.sampleSmall, from 199 on -/
noncomputable def lm_q233_199 (sc : lm_H) (A : Nat → List Value → lm_M lm_R) (B : lm_F → lm_M lm_R) (x0 : Nat) (x1 : Nat) (x3 : Nat) (x4 : Int32) (x5 : Int32) : lm_M lm_R :=
  B (80, [(0, .ref x0), (1, .ref x1), (3, .ref x3), (4, .int x4), (5, .int (x5 + Int32.ofInt 1))], [])
set_option maxRecDepth 100000 in
theorem lm_e233_199 {sc : lm_H} {d : Nat} {x0 : Nat} {x1 : Nat} {x3 : Nat} {x4 : Int32} {x5 : Int32} {σ : lm_S} {r : Except Nat lm_R × lm_S} (h : lm_q233_199 sc (lm_cal sc d) (lm_rn sc d lm_m233.2.2.2.2.1 (lm_reg lm_m233.2.2.2.2.2)) x0 x1 x3 x4 x5  σ = some r) : lm_rn sc d lm_m233.2.2.2.2.1 (lm_reg lm_m233.2.2.2.2.2) (199, [(0, .ref x0), (1, .ref x1), (3, .ref x3), (4, .int x4), (5, .int x5)], []) σ = some r := lm_rn_of h
/-- LatticeSuite$Dsa.sampleSmall, from 198 on -/
noncomputable def lm_q233_198 (sc : lm_H) (A : Nat → List Value → lm_M lm_R) (B : lm_F → lm_M lm_R) (x0 : Nat) (x1 : Nat) (x3 : Nat) (x4 : Int32) (x5 : Int32) (s0 : Int32) (s1 : Int32) (s2 : Nat) : lm_M lm_R :=
  lm_bind (lm_iast s2 s1 s0) fun _ =>
  B (199, [(0, .ref x0), (1, .ref x1), (3, .ref x3), (4, .int x4), (5, .int x5)], [])
set_option maxRecDepth 100000 in
theorem lm_e233_198 {sc : lm_H} {d : Nat} {x0 : Nat} {x1 : Nat} {x3 : Nat} {x4 : Int32} {x5 : Int32} {s0 : Int32} {s1 : Int32} {s2 : Nat} {σ : lm_S} {r : Except Nat lm_R × lm_S} (h : lm_q233_198 sc (lm_cal sc d) (lm_rn sc d lm_m233.2.2.2.2.1 (lm_reg lm_m233.2.2.2.2.2)) x0 x1 x3 x4 x5 s0 s1 s2 σ = some r) : lm_rn sc d lm_m233.2.2.2.2.1 (lm_reg lm_m233.2.2.2.2.2) (198, [(0, .ref x0), (1, .ref x1), (3, .ref x3), (4, .int x4), (5, .int x5)], [.int s0, .int s1, .ref s2]) σ = some r := lm_rn_of h
