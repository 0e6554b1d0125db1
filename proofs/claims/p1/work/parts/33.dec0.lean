/-! ===== printed by my program: what each region does, as a term ===== -/
def lm_us (x y : Int32) : Int32 := (x.toUInt32 >>> (y.toUInt32 &&& Int32.toUInt32 31)).toInt32
def lm_uL (x : Int64) (y : Int32) : Int64 := (x.toUInt64 >>> (y.toInt64.toUInt64 &&& Int64.toUInt64 63)).toInt64
def lm_b8 (x : Int32) : Int32 := x.toInt8.toInt32
def lm_rem (x y : Int32) : Int32 := x - x / y * y
def lm_remL (x y : Int64) : Int64 := x - x / y * y
/-- LatticeSuite.<init>, from 0 on -/
noncomputable def lm_q0_0 (sc : lm_H) (A : Nat → List Value → lm_M lm_R) (B : lm_F → lm_M lm_R) (x0 : Nat) : lm_M lm_R :=
  lm_bind (lm_newr 6 (Int32.ofInt 8)) fun q1 =>
  lm_bind (lm_putf 2 x0 (.ref q1)) fun _ =>
  lm_bind (lm_push (.inr (.inr (.inr (1, [.null, .int 0])))) 2) fun q2 =>
  lm_bind (lm_sel [(1, 41)] (some (.ref q2))) fun y3 =>
  lm_bind (lm_asV (A y3 [.ref q2])) fun _ =>
  lm_bind (lm_putf 6 x0 (.ref q2)) fun _ =>
  lm_bind (lm_push (.inr (.inr (.inr (2, [.null, .null, .null, .null, .null, .null])))) 6) fun q4 =>
  lm_bind (lm_sel [(2, 42)] (some (.ref q4))) fun y5 =>
  lm_bind (lm_asV (A y5 [.ref q4])) fun _ =>
  lm_bind (lm_putf 10 x0 (.ref q4)) fun _ =>
  B (37, [(0, .ref x0), (1, .int (Int32.ofInt 0))], [])
set_option maxRecDepth 100000 in
theorem lm_e0_0 {sc : lm_H} {d : Nat} {x0 : Nat} {σ : lm_S} {r : Except Nat lm_R × lm_S} (h : lm_q0_0 sc (lm_cal sc d) (lm_rn sc d lm_m0.2.2.2.2.1 (lm_reg lm_m0.2.2.2.2.2)) x0  σ = some r) : lm_rn sc d lm_m0.2.2.2.2.1 (lm_reg lm_m0.2.2.2.2.2) (0, [(0, .ref x0)], []) σ = some r := lm_rn_of h
/-- LatticeSuite.<init>, from 37 on -/
noncomputable def lm_q0_37 (sc : lm_H) (A : Nat → List Value → lm_M lm_R) (B : lm_F → lm_M lm_R) (x0 : Nat) (x1 : Int32) : lm_M lm_R :=
  lm_if .ge x1 (Int32.ofInt 8) (lm_bind (lm_push (.inr (.inr (.inr (4, [.null, .null, .null, .null, .int 0, .int 0])))) 6) fun q1 =>
  lm_bind (lm_gR 10 x0) fun v2 =>
  lm_bind (lm_gR 2 x0) fun v3 =>
  lm_bind (lm_aaR sc v3 (Int32.ofInt 4)) fun v4 =>
  lm_bind (lm_gR 2 x0) fun v5 =>
  lm_bind (lm_aaR sc v5 (Int32.ofInt 3)) fun v6 =>
  lm_bind (lm_sel [(4, 43)] (some (.ref q1))) fun y7 =>
  lm_bind (lm_asV (A y7 [.ref q1, .ref v2, .ref v4, .ref v6])) fun _ =>
  lm_bind (lm_putf 14 x0 (.ref q1)) fun _ =>
  lm_bind (lm_push (.inr (.inr (.inr (8, [.null, .null, .null, .null, .null, .null, .null, .null, .null, .null, .null, .null, .int 0, .int 0, .int 0, .int 0])))) 16) fun q8 =>
  lm_bind (lm_gR 10 x0) fun v9 =>
  lm_bind (lm_sel [(8, 44)] (some (.ref q8))) fun y10 =>
  lm_bind (lm_asV (A y10 [.ref q8, .ref v9])) fun _ =>
  lm_bind (lm_putf 18 x0 (.ref q8)) fun _ =>
  lm_bind (lm_push (.inr (.inr (.inr (9, [.null, .null, .null, .null, .null, .null, .null, .null, .null, .null, .null, .null, .null, .null, .null, .null, .null, .int 0, .int 0, .int 0])))) 20) fun q11 =>
  lm_bind (lm_gR 10 x0) fun v12 =>
  lm_bind (lm_sel [(9, 45)] (some (.ref q11))) fun y13 =>
  lm_bind (lm_asV (A y13 [.ref q11, .ref v12])) fun _ =>
  lm_bind (lm_putf 22 x0 (.ref q11)) fun _ =>
  lm_bind (lm_push (.inr (.inr (.inr (10, [.null, .null, .null, .int 0, .int 0, .int 0, .int 0, .int 0, .int 0, .int 0, .int 0, .int 0, .null, .null, .null, .null, .null, .null, .null, .null])))) 20) fun q14 =>
  lm_bind (lm_gR 10 x0) fun v15 =>
  lm_bind (lm_sel [(10, 46)] (some (.ref q14))) fun y16 =>
  lm_bind (lm_asV (A y16 [.ref q14, .ref v15])) fun _ =>
  lm_bind (lm_putf 26 x0 (.ref q14)) fun _ =>
  lm_ret none) (lm_bind (lm_gR 2 x0) fun v17 =>
  lm_bind (lm_push (.inr (.inr (.inr (1, [.null, .int 0])))) 2) fun q18 =>
  lm_bind (lm_sel [(1, 41)] (some (.ref q18))) fun y19 =>
  lm_bind (lm_asV (A y19 [.ref q18])) fun _ =>
  lm_bind (lm_aast v17 x1 q18) fun _ =>
  B (37, [(0, .ref x0), (1, .int (x1 + Int32.ofInt 1))], []))
set_option maxRecDepth 100000 in
theorem lm_e0_37 {sc : lm_H} {d : Nat} {x0 : Nat} {x1 : Int32} {σ : lm_S} {r : Except Nat lm_R × lm_S} (h : lm_q0_37 sc (lm_cal sc d) (lm_rn sc d lm_m0.2.2.2.2.1 (lm_reg lm_m0.2.2.2.2.2)) x0 x1  σ = some r) : lm_rn sc d lm_m0.2.2.2.2.1 (lm_reg lm_m0.2.2.2.2.2) (37, [(0, .ref x0), (1, .int x1)], []) σ = some r := lm_rn_of h
/-- LatticeSuiteModel.<init>, from 0 on -/
noncomputable def lm_q1_0 (sc : lm_H) (A : Nat → List Value → lm_M lm_R) (B : lm_F → lm_M lm_R) (x0 : Nat) : lm_M lm_R :=
  lm_bind (lm_newa .byte (Int32.ofInt 65536)) fun q1 =>
  lm_bind (lm_putf 4402 x0 (.ref q1)) fun _ =>
  lm_bind (lm_newm 4 (Int32.ofInt 8) (Int32.ofInt 65536)) fun q2 =>
  lm_bind (lm_putf 4406 x0 (.ref q2)) fun _ =>
  lm_bind (lm_newa .int (Int32.ofInt 8)) fun q3 =>
  lm_bind (lm_putf 4410 x0 (.ref q3)) fun _ =>
  lm_bind (lm_newa .long (Int32.ofInt 16)) fun q4 =>
  lm_bind (lm_putf 4422 x0 (.ref q4)) fun _ =>
  lm_bind (lm_newa .long (Int32.ofInt 80)) fun q5 =>
  lm_bind (lm_putf 4426 x0 (.ref q5)) fun _ =>
  lm_bind (lm_newa .long (Int32.ofInt 8)) fun q6 =>
  lm_bind (lm_putf 4430 x0 (.ref q6)) fun _ =>
  lm_bind (lm_newa .long (Int32.ofInt 8)) fun q7 =>
  lm_bind (lm_putf 4434 x0 (.ref q7)) fun _ =>
  lm_bind (lm_newa .long (Int32.ofInt 16)) fun q8 =>
  lm_bind (lm_putf 4438 x0 (.ref q8)) fun _ =>
  lm_bind (lm_newa .long (Int32.ofInt 16)) fun q9 =>
  lm_bind (lm_putf 4442 x0 (.ref q9)) fun _ =>
  lm_bind (lm_newa .int (Int32.ofInt 25)) fun q10 =>
  lm_bind (lm_putf 4446 x0 (.ref q10)) fun _ =>
  lm_bind (lm_newa .long (Int32.ofInt 24)) fun q11 =>
  lm_bind (lm_putf 4450 x0 (.ref q11)) fun _ =>
  lm_bind (lm_newa .long (Int32.ofInt 25)) fun q12 =>
  lm_bind (lm_putf 4454 x0 (.ref q12)) fun _ =>
  lm_bind (lm_newa .long (Int32.ofInt 25)) fun q13 =>
  lm_bind (lm_putf 4458 x0 (.ref q13)) fun _ =>
  lm_bind (lm_newa .long (Int32.ofInt 5)) fun q14 =>
  lm_bind (lm_putf 4462 x0 (.ref q14)) fun _ =>
  lm_bind (lm_newa .long (Int32.ofInt 80)) fun q15 =>
  lm_bind (lm_putf 4466 x0 (.ref q15)) fun _ =>
  lm_bind (lm_newa .byte (Int32.ofInt 128)) fun q16 =>
  lm_bind (lm_putf 4470 x0 (.ref q16)) fun _ =>
  lm_bind (lm_newa .byte (Int32.ofInt 128)) fun q17 =>
  lm_bind (lm_putf 4490 x0 (.ref q17)) fun _ =>
  lm_bind (lm_newa .byte (Int32.ofInt 64)) fun q18 =>
  lm_bind (lm_putf 4494 x0 (.ref q18)) fun _ =>
  lm_bind (lm_newa .long (Int32.ofInt 256)) fun q19 =>
  lm_bind (lm_putf 4502 x0 (.ref q19)) fun _ =>
  lm_bind (lm_newa .int (Int32.ofInt 256)) fun q20 =>
  lm_bind (lm_putf 4506 x0 (.ref q20)) fun _ =>
  lm_bind (lm_newm 3 (Int32.ofInt 30) (Int32.ofInt 256)) fun q21 =>
  lm_bind (lm_putf 4510 x0 (.ref q21)) fun _ =>
  lm_bind (lm_newa .byte (Int32.ofInt 256)) fun q22 =>
  lm_bind (lm_putf 4514 x0 (.ref q22)) fun _ =>
  lm_bind (lm_newa .byte (Int32.ofInt 256)) fun q23 =>
  lm_bind (lm_putf 4518 x0 (.ref q23)) fun _ =>
  lm_bind (lm_newa .byte (Int32.ofInt 65536)) fun q24 =>
  lm_bind (lm_putf 4522 x0 (.ref q24)) fun _ =>
  lm_bind (lm_newa .byte (Int32.ofInt 8192)) fun q25 =>
  lm_bind (lm_putf 4526 x0 (.ref q25)) fun _ =>
  lm_bind (lm_newa .byte (Int32.ofInt 32)) fun q26 =>
  lm_bind (lm_putf 4546 x0 (.ref q26)) fun _ =>
  lm_bind (lm_newa .int (Int32.ofInt 512)) fun q27 =>
  lm_bind (lm_putf 4550 x0 (.ref q27)) fun _ =>
  lm_bind (lm_newm 3 (Int32.ofInt 48) (Int32.ofInt 256)) fun q28 =>
  lm_bind (lm_putf 4554 x0 (.ref q28)) fun _ =>
  lm_bind (lm_newm 5 (Int32.ofInt 8) (Int32.ofInt 256)) fun q29 =>
  lm_bind (lm_putf 4558 x0 (.ref q29)) fun _ =>
  lm_bind (lm_newa .byte (Int32.ofInt 16384)) fun q30 =>
  lm_bind (lm_putf 4562 x0 (.ref q30)) fun _ =>
  lm_bind (lm_newa .byte (Int32.ofInt 8192)) fun q31 =>
  lm_bind (lm_putf 4566 x0 (.ref q31)) fun _ =>
  lm_bind (lm_newa .byte (Int32.ofInt 64)) fun q32 =>
  lm_bind (lm_putf 4602 x0 (.ref q32)) fun _ =>
  lm_bind (lm_newa .byte (Int32.ofInt 64)) fun q33 =>
  lm_bind (lm_putf 4606 x0 (.ref q33)) fun _ =>
  lm_bind (lm_newa .byte (Int32.ofInt 64)) fun q34 =>
  lm_bind (lm_putf 4610 x0 (.ref q34)) fun _ =>
  lm_bind (lm_newa .byte (Int32.ofInt 64)) fun q35 =>
  lm_bind (lm_putf 4614 x0 (.ref q35)) fun _ =>
  lm_bind (lm_newa .byte (Int32.ofInt 32)) fun q36 =>
  lm_bind (lm_putf 4618 x0 (.ref q36)) fun _ =>
  lm_bind (lm_newm 4 (Int32.ofInt 16) (Int32.ofInt 64)) fun q37 =>
  lm_bind (lm_putf 4622 x0 (.ref q37)) fun _ =>
  lm_bind (lm_newa .byte (Int32.ofInt 2144)) fun q38 =>
  lm_bind (lm_putf 4626 x0 (.ref q38)) fun _ =>
  lm_bind (lm_newa .byte (Int32.ofInt 2048)) fun q39 =>
  lm_bind (lm_putf 4630 x0 (.ref q39)) fun _ =>
  lm_bind (lm_newa .byte (Int32.ofInt 32)) fun q40 =>
  lm_bind (lm_putf 4634 x0 (.ref q40)) fun _ =>
  lm_bind (lm_newa .byte (Int32.ofInt 64)) fun q41 =>
  lm_bind (lm_putf 4638 x0 (.ref q41)) fun _ =>
  lm_bind (lm_newa .byte (Int32.ofInt 64)) fun q42 =>
  lm_bind (lm_putf 4642 x0 (.ref q42)) fun _ =>
  lm_bind (lm_newa .byte (Int32.ofInt 64)) fun q43 =>
  lm_bind (lm_putf 4646 x0 (.ref q43)) fun _ =>
  lm_bind (lm_newa .int (Int32.ofInt 67)) fun q44 =>
  lm_bind (lm_putf 4650 x0 (.ref q44)) fun _ =>
  lm_bind (lm_newa .byte (Int32.ofInt 32)) fun q45 =>
  lm_bind (lm_putf 4654 x0 (.ref q45)) fun _ =>
  lm_bind (lm_newa .byte (Int32.ofInt 32)) fun q46 =>
  lm_bind (lm_putf 4658 x0 (.ref q46)) fun _ =>
  lm_bind (lm_newa .byte (Int32.ofInt 32)) fun q47 =>
  lm_bind (lm_putf 4662 x0 (.ref q47)) fun _ =>
  lm_bind (lm_newa .byte (Int32.ofInt 32)) fun q48 =>
  lm_bind (lm_putf 4666 x0 (.ref q48)) fun _ =>
  lm_bind (lm_sel [(11, 47)] (some (.ref x0))) fun y49 =>
  lm_bind (lm_asV (A y49 [.ref x0])) fun _ =>
  lm_ret none
set_option maxRecDepth 100000 in
theorem lm_e1_0 {sc : lm_H} {d : Nat} {x0 : Nat} {σ : lm_S} {r : Except Nat lm_R × lm_S} (h : lm_q1_0 sc (lm_cal sc d) (lm_rn sc d lm_m1.2.2.2.2.1 (lm_reg lm_m1.2.2.2.2.2)) x0  σ = some r) : lm_rn sc d lm_m1.2.2.2.2.1 (lm_reg lm_m1.2.2.2.2.2) (0, [(0, .ref x0)], []) σ = some r := lm_rn_of h
/-- LatticeSuiteLaw.feed, from 0 on -/
noncomputable def lm_q2_0 (sc : lm_H) (A : Nat → List Value → lm_M lm_R) (B : lm_F → lm_M lm_R) (x0 : Nat) (x1 : Int32) (x2 : Int32) (x3 : Int32) (x4 : Int32) (x5 : Int32) (x6 : Nat) : lm_M lm_R :=
  lm_bind (lm_sel [(0, 48)] (some (.ref x0))) fun y1 =>
  lm_try (lm_asI (A y1 [.ref x0, .int x1, .int x2, .int x3, .int x4, .int x5])) [(12, 19)] (fun v2 =>
  lm_bind (lm_last x6 (Int32.ofInt 0) (Int32.toInt64 v2)) fun _ =>
  lm_ret (some (.int (Int32.ofInt 0)))) (fun h q => B (h, [], [.ref q]))
set_option maxRecDepth 100000 in
theorem lm_e2_0 {sc : lm_H} {d : Nat} {x0 : Nat} {x1 : Int32} {x2 : Int32} {x3 : Int32} {x4 : Int32} {x5 : Int32} {x6 : Nat} {σ : lm_S} {r : Except Nat lm_R × lm_S} (h : lm_q2_0 sc (lm_cal sc d) (lm_rn sc d lm_m2.2.2.2.2.1 (lm_reg lm_m2.2.2.2.2.2)) x0 x1 x2 x3 x4 x5 x6  σ = some r) : lm_rn sc d lm_m2.2.2.2.2.1 (lm_reg lm_m2.2.2.2.2.2) (0, [(0, .ref x0), (1, .int x1), (2, .int x2), (3, .int x3), (4, .int x4), (5, .int x5), (6, .ref x6)], []) σ = some r := lm_rn_of h
/-- LatticeSuiteLaw.feed, from 19 on -/
noncomputable def lm_q2_19 (sc : lm_H) (A : Nat → List Value → lm_M lm_R) (B : lm_F → lm_M lm_R)  (s0 : Nat) : lm_M lm_R :=
  lm_ret (some (.int (Int32.ofInt 1)))
set_option maxRecDepth 100000 in
theorem lm_e2_19 {sc : lm_H} {d : Nat}  {s0 : Nat} {σ : lm_S} {r : Except Nat lm_R × lm_S} (h : lm_q2_19 sc (lm_cal sc d) (lm_rn sc d lm_m2.2.2.2.2.1 (lm_reg lm_m2.2.2.2.2.2))  s0 σ = some r) : lm_rn sc d lm_m2.2.2.2.2.1 (lm_reg lm_m2.2.2.2.2.2) (19, [], [.ref s0]) σ = some r := lm_rn_of h
/-- LatticeSuiteModel.feed, from 0 on -/
noncomputable def lm_q3_0 (sc : lm_H) (A : Nat → List Value → lm_M lm_R) (B : lm_F → lm_M lm_R) (x0 : Nat) (x1 : Int32) (x2 : Int32) (x3 : Int32) (x4 : Int32) (x5 : Int32) : lm_M lm_R :=
  lm_bind (lm_gI 4412 x0) fun v1 =>
  lm_if .gt (v1 + (Int32.ofInt 20)) (Int32.ofInt 65536) (B (18, [(0, .ref x0), (1, .int x1), (2, .int x2), (3, .int x3), (4, .int x4), (5, .int x5)], [.int (Int32.ofInt 0), .ref x0])) (B (18, [(0, .ref x0), (1, .int x1), (2, .int x2), (3, .int x3), (4, .int x4), (5, .int x5)], [.int (Int32.ofInt 1), .ref x0]))
set_option maxRecDepth 100000 in
theorem lm_e3_0 {sc : lm_H} {d : Nat} {x0 : Nat} {x1 : Int32} {x2 : Int32} {x3 : Int32} {x4 : Int32} {x5 : Int32} {σ : lm_S} {r : Except Nat lm_R × lm_S} (h : lm_q3_0 sc (lm_cal sc d) (lm_rn sc d lm_m3.2.2.2.2.1 (lm_reg lm_m3.2.2.2.2.2)) x0 x1 x2 x3 x4 x5  σ = some r) : lm_rn sc d lm_m3.2.2.2.2.1 (lm_reg lm_m3.2.2.2.2.2) (0, [(0, .ref x0), (1, .int x1), (2, .int x2), (3, .int x3), (4, .int x4), (5, .int x5)], []) σ = some r := lm_rn_of h
/-- LatticeSuiteModel.feed, from 18 on -/
noncomputable def lm_q3_18 (sc : lm_H) (A : Nat → List Value → lm_M lm_R) (B : lm_F → lm_M lm_R) (x0 : Nat) (x1 : Int32) (x2 : Int32) (x3 : Int32) (x4 : Int32) (x5 : Int32) (s0 : Int32) (s1 : Nat) : lm_M lm_R :=
  lm_bind (lm_sel [(11, 49)] (some (.ref s1))) fun y1 =>
  lm_bind (lm_asI (A y1 [.ref s1, .int s0, .int (Int32.ofInt 1)])) fun v2 =>
  lm_if .ne v2 0 (lm_bind (lm_sel [(11, 50)] (some (.ref x0))) fun y3 =>
  lm_bind (lm_asV (A y3 [.ref x0, .int x1])) fun _ =>
  lm_bind (lm_sel [(11, 50)] (some (.ref x0))) fun y4 =>
  lm_bind (lm_asV (A y4 [.ref x0, .int x2])) fun _ =>
  lm_bind (lm_sel [(11, 50)] (some (.ref x0))) fun y5 =>
  lm_bind (lm_asV (A y5 [.ref x0, .int x3])) fun _ =>
  lm_bind (lm_sel [(11, 50)] (some (.ref x0))) fun y6 =>
  lm_bind (lm_asV (A y6 [.ref x0, .int x4])) fun _ =>
  lm_bind (lm_sel [(11, 50)] (some (.ref x0))) fun y7 =>
  lm_bind (lm_asV (A y7 [.ref x0, .int x5])) fun _ =>
  lm_bind (lm_gI 4412 x0) fun v8 =>
  lm_ret (some (.int v8))) (lm_ret (some (.int (Int32.ofInt 0))))
set_option maxRecDepth 100000 in
theorem lm_e3_18 {sc : lm_H} {d : Nat} {x0 : Nat} {x1 : Int32} {x2 : Int32} {x3 : Int32} {x4 : Int32} {x5 : Int32} {s0 : Int32} {s1 : Nat} {σ : lm_S} {r : Except Nat lm_R × lm_S} (h : lm_q3_18 sc (lm_cal sc d) (lm_rn sc d lm_m3.2.2.2.2.1 (lm_reg lm_m3.2.2.2.2.2)) x0 x1 x2 x3 x4 x5 s0 s1 σ = some r) : lm_rn sc d lm_m3.2.2.2.2.1 (lm_reg lm_m3.2.2.2.2.2) (18, [(0, .ref x0), (1, .int x1), (2, .int x2), (3, .int x3), (4, .int x4), (5, .int x5)], [.int s0, .ref s1]) σ = some r := lm_rn_of h
/-- LatticeSuiteModel.thrown, from 0 on -/
noncomputable def lm_q4_0 (sc : lm_H) (A : Nat → List Value → lm_M lm_R) (B : lm_F → lm_M lm_R) (x0 : Nat) : lm_M lm_R :=
  lm_bind (lm_gI 4416 x0) fun v1 =>
  lm_ret (some (.int v1))
set_option maxRecDepth 100000 in
theorem lm_e4_0 {sc : lm_H} {d : Nat} {x0 : Nat} {σ : lm_S} {r : Except Nat lm_R × lm_S} (h : lm_q4_0 sc (lm_cal sc d) (lm_rn sc d lm_m4.2.2.2.2.1 (lm_reg lm_m4.2.2.2.2.2)) x0  σ = some r) : lm_rn sc d lm_m4.2.2.2.2.1 (lm_reg lm_m4.2.2.2.2.2) (0, [(0, .ref x0)], []) σ = some r := lm_rn_of h
/-- LatticeSuiteLaw.end, from 0 on -/
noncomputable def lm_q5_0 (sc : lm_H) (A : Nat → List Value → lm_M lm_R) (B : lm_F → lm_M lm_R) (x0 : Nat) (x1 : Int32) (x2 : Int32) (x3 : Nat) : lm_M lm_R :=
  lm_bind (lm_sel [(0, 51)] (some (.ref x0))) fun y1 =>
  lm_try (lm_asI (A y1 [.ref x0, .int x1, .int x2])) [(13, 13), (12, 17)] (fun v2 =>
  lm_bind (lm_last x3 (Int32.ofInt 0) (Int32.toInt64 v2)) fun _ =>
  lm_ret (some (.int (Int32.ofInt 0)))) (fun h q => B (h, [], [.ref q]))
set_option maxRecDepth 100000 in
theorem lm_e5_0 {sc : lm_H} {d : Nat} {x0 : Nat} {x1 : Int32} {x2 : Int32} {x3 : Nat} {σ : lm_S} {r : Except Nat lm_R × lm_S} (h : lm_q5_0 sc (lm_cal sc d) (lm_rn sc d lm_m5.2.2.2.2.1 (lm_reg lm_m5.2.2.2.2.2)) x0 x1 x2 x3  σ = some r) : lm_rn sc d lm_m5.2.2.2.2.1 (lm_reg lm_m5.2.2.2.2.2) (0, [(0, .ref x0), (1, .int x1), (2, .int x2), (3, .ref x3)], []) σ = some r := lm_rn_of h
/-- LatticeSuiteLaw.end, from 13 on -/
noncomputable def lm_q5_13 (sc : lm_H) (A : Nat → List Value → lm_M lm_R) (B : lm_F → lm_M lm_R)  (s0 : Nat) : lm_M lm_R :=
  lm_ret (some (.int (Int32.ofInt 1)))
set_option maxRecDepth 100000 in
theorem lm_e5_13 {sc : lm_H} {d : Nat}  {s0 : Nat} {σ : lm_S} {r : Except Nat lm_R × lm_S} (h : lm_q5_13 sc (lm_cal sc d) (lm_rn sc d lm_m5.2.2.2.2.1 (lm_reg lm_m5.2.2.2.2.2))  s0 σ = some r) : lm_rn sc d lm_m5.2.2.2.2.1 (lm_reg lm_m5.2.2.2.2.2) (13, [], [.ref s0]) σ = some r := lm_rn_of h
/-- LatticeSuiteLaw.end, from 17 on -/
noncomputable def lm_q5_17 (sc : lm_H) (A : Nat → List Value → lm_M lm_R) (B : lm_F → lm_M lm_R)  (s0 : Nat) : lm_M lm_R :=
  lm_ret (some (.int (Int32.ofInt 2)))
set_option maxRecDepth 100000 in
theorem lm_e5_17 {sc : lm_H} {d : Nat}  {s0 : Nat} {σ : lm_S} {r : Except Nat lm_R × lm_S} (h : lm_q5_17 sc (lm_cal sc d) (lm_rn sc d lm_m5.2.2.2.2.1 (lm_reg lm_m5.2.2.2.2.2))  s0 σ = some r) : lm_rn sc d lm_m5.2.2.2.2.1 (lm_reg lm_m5.2.2.2.2.2) (17, [], [.ref s0]) σ = some r := lm_rn_of h
/-- LatticeSuiteModel.end, from 0 on -/
noncomputable def lm_q6_0 (sc : lm_H) (A : Nat → List Value → lm_M lm_R) (B : lm_F → lm_M lm_R) (x0 : Nat) (x1 : Int32) (x2 : Int32) : lm_M lm_R :=
  lm_bind (lm_asI (A 52 [.int x1, .int (Int32.ofInt 0), .int (Int32.ofInt 7)])) fun v1 =>
  lm_if .eq v1 0 (B (25, [(0, .ref x0), (1, .int x1), (2, .int x2)], [.ref x0])) (lm_bind (lm_asI (A 52 [.int x2, .int (Int32.ofInt 0), .int (Int32.ofInt 65536)])) fun v2 =>
  lm_if .eq v2 0 (B (25, [(0, .ref x0), (1, .int x1), (2, .int x2)], [.ref x0])) (B (26, [(0, .ref x0), (1, .int x1), (2, .int x2)], [.int (Int32.ofInt 1), .ref x0])))
set_option maxRecDepth 100000 in
theorem lm_e6_0 {sc : lm_H} {d : Nat} {x0 : Nat} {x1 : Int32} {x2 : Int32} {σ : lm_S} {r : Except Nat lm_R × lm_S} (h : lm_q6_0 sc (lm_cal sc d) (lm_rn sc d lm_m6.2.2.2.2.1 (lm_reg lm_m6.2.2.2.2.2)) x0 x1 x2  σ = some r) : lm_rn sc d lm_m6.2.2.2.2.1 (lm_reg lm_m6.2.2.2.2.2) (0, [(0, .ref x0), (1, .int x1), (2, .int x2)], []) σ = some r := lm_rn_of h
/-- LatticeSuiteModel.end, from 25 on -/
noncomputable def lm_q6_25 (sc : lm_H) (A : Nat → List Value → lm_M lm_R) (B : lm_F → lm_M lm_R) (x0 : Nat) (x1 : Int32) (x2 : Int32) (s0 : Nat) : lm_M lm_R :=
  B (26, [(0, .ref x0), (1, .int x1), (2, .int x2)], [.int (Int32.ofInt 0), .ref s0])
set_option maxRecDepth 100000 in
theorem lm_e6_25 {sc : lm_H} {d : Nat} {x0 : Nat} {x1 : Int32} {x2 : Int32} {s0 : Nat} {σ : lm_S} {r : Except Nat lm_R × lm_S} (h : lm_q6_25 sc (lm_cal sc d) (lm_rn sc d lm_m6.2.2.2.2.1 (lm_reg lm_m6.2.2.2.2.2)) x0 x1 x2 s0 σ = some r) : lm_rn sc d lm_m6.2.2.2.2.1 (lm_reg lm_m6.2.2.2.2.2) (25, [(0, .ref x0), (1, .int x1), (2, .int x2)], [.ref s0]) σ = some r := lm_rn_of h
/-- LatticeSuiteModel.end, from 26 on -/
noncomputable def lm_q6_26 (sc : lm_H) (A : Nat → List Value → lm_M lm_R) (B : lm_F → lm_M lm_R) (x0 : Nat) (x1 : Int32) (x2 : Int32) (s0 : Int32) (s1 : Nat) : lm_M lm_R :=
  lm_bind (lm_sel [(11, 49)] (some (.ref s1))) fun y1 =>
  lm_bind (lm_asI (A y1 [.ref s1, .int s0, .int (Int32.ofInt 1)])) fun v2 =>
  lm_if .eq v2 0 (lm_ret (some (.int (Int32.ofInt 0)))) (lm_bind (lm_gI 4412 x0) fun v3 =>
  lm_if .gt x2 v3 (B (47, [(0, .ref x0), (1, .int x1), (2, .int x2)], [.int (Int32.ofInt 0), .ref x0])) (B (47, [(0, .ref x0), (1, .int x1), (2, .int x2)], [.int (Int32.ofInt 1), .ref x0])))
set_option maxRecDepth 100000 in
theorem lm_e6_26 {sc : lm_H} {d : Nat} {x0 : Nat} {x1 : Int32} {x2 : Int32} {s0 : Int32} {s1 : Nat} {σ : lm_S} {r : Except Nat lm_R × lm_S} (h : lm_q6_26 sc (lm_cal sc d) (lm_rn sc d lm_m6.2.2.2.2.1 (lm_reg lm_m6.2.2.2.2.2)) x0 x1 x2 s0 s1 σ = some r) : lm_rn sc d lm_m6.2.2.2.2.1 (lm_reg lm_m6.2.2.2.2.2) (26, [(0, .ref x0), (1, .int x1), (2, .int x2)], [.int s0, .ref s1]) σ = some r := lm_rn_of h
/-- LatticeSuiteModel.end, from 47 on -/
noncomputable def lm_q6_47 (sc : lm_H) (A : Nat → List Value → lm_M lm_R) (B : lm_F → lm_M lm_R) (x0 : Nat) (x1 : Int32) (x2 : Int32) (s0 : Int32) (s1 : Nat) : lm_M lm_R :=
  lm_bind (lm_sel [(11, 49)] (some (.ref s1))) fun y1 =>
  lm_bind (lm_asI (A y1 [.ref s1, .int s0, .int (Int32.ofInt 2)])) fun v2 =>
  lm_if .ne v2 0 (B (58, [(0, .ref x0), (1, .int x1), (2, .int x2), (3, .int (Int32.ofInt 0))], [])) (lm_ret (some (.int (Int32.ofInt 0))))
set_option maxRecDepth 100000 in
theorem lm_e6_47 {sc : lm_H} {d : Nat} {x0 : Nat} {x1 : Int32} {x2 : Int32} {s0 : Int32} {s1 : Nat} {σ : lm_S} {r : Except Nat lm_R × lm_S} (h : lm_q6_47 sc (lm_cal sc d) (lm_rn sc d lm_m6.2.2.2.2.1 (lm_reg lm_m6.2.2.2.2.2)) x0 x1 x2 s0 s1 σ = some r) : lm_rn sc d lm_m6.2.2.2.2.1 (lm_reg lm_m6.2.2.2.2.2) (47, [(0, .ref x0), (1, .int x1), (2, .int x2)], [.int s0, .ref s1]) σ = some r := lm_rn_of h
/-- LatticeSuiteModel.end, from 58 on -/
noncomputable def lm_q6_58 (sc : lm_H) (A : Nat → List Value → lm_M lm_R) (B : lm_F → lm_M lm_R) (x0 : Nat) (x1 : Int32) (x2 : Int32) (x3 : Int32) : lm_M lm_R :=
  lm_if .ge x3 x2 (lm_bind (lm_gR 4410 x0) fun v1 =>
  lm_bind (lm_iast v1 x1 x2) fun _ =>
  lm_bind (lm_putf 4412 x0 (.int (Int32.ofInt 0))) fun _ =>
  lm_ret (some (.int x2))) (lm_bind (lm_gR 4406 x0) fun v2 =>
  lm_bind (lm_aaR sc v2 x1) fun v3 =>
  lm_bind (lm_gR 4402 x0) fun v4 =>
  lm_bind (lm_bald sc v4 x3) fun v5 =>
  lm_bind (lm_bast v3 x3 v5) fun _ =>
  B (58, [(0, .ref x0), (1, .int x1), (2, .int x2), (3, .int (x3 + Int32.ofInt 1))], []))
set_option maxRecDepth 100000 in
theorem lm_e6_58 {sc : lm_H} {d : Nat} {x0 : Nat} {x1 : Int32} {x2 : Int32} {x3 : Int32} {σ : lm_S} {r : Except Nat lm_R × lm_S} (h : lm_q6_58 sc (lm_cal sc d) (lm_rn sc d lm_m6.2.2.2.2.1 (lm_reg lm_m6.2.2.2.2.2)) x0 x1 x2 x3  σ = some r) : lm_rn sc d lm_m6.2.2.2.2.1 (lm_reg lm_m6.2.2.2.2.2) (58, [(0, .ref x0), (1, .int x1), (2, .int x2), (3, .int x3)], []) σ = some r := lm_rn_of h
/-- LatticeSuiteLaw.copy, from 0 on -/
noncomputable def lm_q7_0 (sc : lm_H) (A : Nat → List Value → lm_M lm_R) (B : lm_F → lm_M lm_R) (x0 : Nat) (x1 : Int32) (x2 : Int32) (x3 : Nat) : lm_M lm_R :=
  lm_bind (lm_sel [(0, 53)] (some (.ref x0))) fun y1 =>
  lm_try (lm_asI (A y1 [.ref x0, .int x1, .int x2])) [(13, 13)] (fun v2 =>
  lm_bind (lm_last x3 (Int32.ofInt 0) (Int32.toInt64 v2)) fun _ =>
  lm_ret (some (.int (Int32.ofInt 0)))) (fun h q => B (h, [], [.ref q]))
set_option maxRecDepth 100000 in
theorem lm_e7_0 {sc : lm_H} {d : Nat} {x0 : Nat} {x1 : Int32} {x2 : Int32} {x3 : Nat} {σ : lm_S} {r : Except Nat lm_R × lm_S} (h : lm_q7_0 sc (lm_cal sc d) (lm_rn sc d lm_m7.2.2.2.2.1 (lm_reg lm_m7.2.2.2.2.2)) x0 x1 x2 x3  σ = some r) : lm_rn sc d lm_m7.2.2.2.2.1 (lm_reg lm_m7.2.2.2.2.2) (0, [(0, .ref x0), (1, .int x1), (2, .int x2), (3, .ref x3)], []) σ = some r := lm_rn_of h
/-- LatticeSuiteLaw.copy, from 13 on -/
noncomputable def lm_q7_13 (sc : lm_H) (A : Nat → List Value → lm_M lm_R) (B : lm_F → lm_M lm_R)  (s0 : Nat) : lm_M lm_R :=
  lm_ret (some (.int (Int32.ofInt 1)))
set_option maxRecDepth 100000 in
theorem lm_e7_13 {sc : lm_H} {d : Nat}  {s0 : Nat} {σ : lm_S} {r : Except Nat lm_R × lm_S} (h : lm_q7_13 sc (lm_cal sc d) (lm_rn sc d lm_m7.2.2.2.2.1 (lm_reg lm_m7.2.2.2.2.2))  s0 σ = some r) : lm_rn sc d lm_m7.2.2.2.2.1 (lm_reg lm_m7.2.2.2.2.2) (13, [], [.ref s0]) σ = some r := lm_rn_of h
/-- LatticeSuiteModel.copy, from 0 on -/
noncomputable def lm_q8_0 (sc : lm_H) (A : Nat → List Value → lm_M lm_R) (B : lm_F → lm_M lm_R) (x0 : Nat) (x1 : Int32) (x2 : Int32) : lm_M lm_R :=
  lm_bind (lm_asI (A 52 [.int x1, .int (Int32.ofInt 0), .int (Int32.ofInt 7)])) fun v1 =>
  lm_if .eq v1 0 (B (25, [(0, .ref x0), (1, .int x1), (2, .int x2)], [.ref x0])) (lm_bind (lm_asI (A 52 [.int x2, .int (Int32.ofInt 0), .int (Int32.ofInt 7)])) fun v2 =>
  lm_if .eq v2 0 (B (25, [(0, .ref x0), (1, .int x1), (2, .int x2)], [.ref x0])) (B (26, [(0, .ref x0), (1, .int x1), (2, .int x2)], [.int (Int32.ofInt 1), .ref x0])))
set_option maxRecDepth 100000 in
theorem lm_e8_0 {sc : lm_H} {d : Nat} {x0 : Nat} {x1 : Int32} {x2 : Int32} {σ : lm_S} {r : Except Nat lm_R × lm_S} (h : lm_q8_0 sc (lm_cal sc d) (lm_rn sc d lm_m8.2.2.2.2.1 (lm_reg lm_m8.2.2.2.2.2)) x0 x1 x2  σ = some r) : lm_rn sc d lm_m8.2.2.2.2.1 (lm_reg lm_m8.2.2.2.2.2) (0, [(0, .ref x0), (1, .int x1), (2, .int x2)], []) σ = some r := lm_rn_of h
/-- LatticeSuiteModel.copy, from 25 on -/
noncomputable def lm_q8_25 (sc : lm_H) (A : Nat → List Value → lm_M lm_R) (B : lm_F → lm_M lm_R) (x0 : Nat) (x1 : Int32) (x2 : Int32) (s0 : Nat) : lm_M lm_R :=
  B (26, [(0, .ref x0), (1, .int x1), (2, .int x2)], [.int (Int32.ofInt 0), .ref s0])
set_option maxRecDepth 100000 in
theorem lm_e8_25 {sc : lm_H} {d : Nat} {x0 : Nat} {x1 : Int32} {x2 : Int32} {s0 : Nat} {σ : lm_S} {r : Except Nat lm_R × lm_S} (h : lm_q8_25 sc (lm_cal sc d) (lm_rn sc d lm_m8.2.2.2.2.1 (lm_reg lm_m8.2.2.2.2.2)) x0 x1 x2 s0 σ = some r) : lm_rn sc d lm_m8.2.2.2.2.1 (lm_reg lm_m8.2.2.2.2.2) (25, [(0, .ref x0), (1, .int x1), (2, .int x2)], [.ref s0]) σ = some r := lm_rn_of h
/-- LatticeSuiteModel.copy, from 26 on -/
noncomputable def lm_q8_26 (sc : lm_H) (A : Nat → List Value → lm_M lm_R) (B : lm_F → lm_M lm_R) (x0 : Nat) (x1 : Int32) (x2 : Int32) (s0 : Int32) (s1 : Nat) : lm_M lm_R :=
  lm_bind (lm_sel [(11, 49)] (some (.ref s1))) fun y1 =>
  lm_bind (lm_asI (A y1 [.ref s1, .int s0, .int (Int32.ofInt 1)])) fun v2 =>
  lm_if .ne v2 0 (B (37, [(0, .ref x0), (1, .int x1), (2, .int x2), (3, .int (Int32.ofInt 0))], [])) (lm_ret (some (.int (Int32.ofInt 0))))
set_option maxRecDepth 100000 in
theorem lm_e8_26 {sc : lm_H} {d : Nat} {x0 : Nat} {x1 : Int32} {x2 : Int32} {s0 : Int32} {s1 : Nat} {σ : lm_S} {r : Except Nat lm_R × lm_S} (h : lm_q8_26 sc (lm_cal sc d) (lm_rn sc d lm_m8.2.2.2.2.1 (lm_reg lm_m8.2.2.2.2.2)) x0 x1 x2 s0 s1 σ = some r) : lm_rn sc d lm_m8.2.2.2.2.1 (lm_reg lm_m8.2.2.2.2.2) (26, [(0, .ref x0), (1, .int x1), (2, .int x2)], [.int s0, .ref s1]) σ = some r := lm_rn_of h
/-- LatticeSuiteModel.copy, from 37 on -/
noncomputable def lm_q8_37 (sc : lm_H) (A : Nat → List Value → lm_M lm_R) (B : lm_F → lm_M lm_R) (x0 : Nat) (x1 : Int32) (x2 : Int32) (x3 : Int32) : lm_M lm_R :=
  lm_bind (lm_gR 4410 x0) fun v1 =>
  lm_bind (lm_iald sc v1 x1) fun v2 =>
  lm_if .ge x3 v2 (lm_bind (lm_gR 4410 x0) fun v3 =>
  lm_bind (lm_gR 4410 x0) fun v4 =>
  lm_bind (lm_iald sc v4 x1) fun v5 =>
  lm_bind (lm_iast v3 x2 v5) fun _ =>
  lm_bind (lm_gR 4410 x0) fun v6 =>
  lm_bind (lm_iald sc v6 x2) fun v7 =>
  lm_ret (some (.int v7))) (lm_bind (lm_gR 4406 x0) fun v8 =>
  lm_bind (lm_aaR sc v8 x2) fun v9 =>
  lm_bind (lm_gR 4406 x0) fun v10 =>
  lm_bind (lm_aaR sc v10 x1) fun v11 =>
  lm_bind (lm_bald sc v11 x3) fun v12 =>
  lm_bind (lm_bast v9 x3 v12) fun _ =>
  B (37, [(0, .ref x0), (1, .int x1), (2, .int x2), (3, .int (x3 + Int32.ofInt 1))], []))
set_option maxRecDepth 100000 in
theorem lm_e8_37 {sc : lm_H} {d : Nat} {x0 : Nat} {x1 : Int32} {x2 : Int32} {x3 : Int32} {σ : lm_S} {r : Except Nat lm_R × lm_S} (h : lm_q8_37 sc (lm_cal sc d) (lm_rn sc d lm_m8.2.2.2.2.1 (lm_reg lm_m8.2.2.2.2.2)) x0 x1 x2 x3  σ = some r) : lm_rn sc d lm_m8.2.2.2.2.1 (lm_reg lm_m8.2.2.2.2.2) (37, [(0, .ref x0), (1, .int x1), (2, .int x2), (3, .int x3)], []) σ = some r := lm_rn_of h
/-- LatticeSuiteLaw.resize, from 0 on -/
noncomputable def lm_q9_0 (sc : lm_H) (A : Nat → List Value → lm_M lm_R) (B : lm_F → lm_M lm_R) (x0 : Nat) (x1 : Int32) (x2 : Int32) (x3 : Nat) : lm_M lm_R :=
  lm_bind (lm_sel [(0, 54)] (some (.ref x0))) fun y1 =>
  lm_try (lm_asI (A y1 [.ref x0, .int x1, .int x2])) [(13, 13)] (fun v2 =>
  lm_bind (lm_last x3 (Int32.ofInt 0) (Int32.toInt64 v2)) fun _ =>
  lm_ret (some (.int (Int32.ofInt 0)))) (fun h q => B (h, [], [.ref q]))
set_option maxRecDepth 100000 in
theorem lm_e9_0 {sc : lm_H} {d : Nat} {x0 : Nat} {x1 : Int32} {x2 : Int32} {x3 : Nat} {σ : lm_S} {r : Except Nat lm_R × lm_S} (h : lm_q9_0 sc (lm_cal sc d) (lm_rn sc d lm_m9.2.2.2.2.1 (lm_reg lm_m9.2.2.2.2.2)) x0 x1 x2 x3  σ = some r) : lm_rn sc d lm_m9.2.2.2.2.1 (lm_reg lm_m9.2.2.2.2.2) (0, [(0, .ref x0), (1, .int x1), (2, .int x2), (3, .ref x3)], []) σ = some r := lm_rn_of h
/-- LatticeSuiteLaw.resize, from 13 on -/
noncomputable def lm_q9_13 (sc : lm_H) (A : Nat → List Value → lm_M lm_R) (B : lm_F → lm_M lm_R)  (s0 : Nat) : lm_M lm_R :=
  lm_ret (some (.int (Int32.ofInt 1)))
set_option maxRecDepth 100000 in
theorem lm_e9_13 {sc : lm_H} {d : Nat}  {s0 : Nat} {σ : lm_S} {r : Except Nat lm_R × lm_S} (h : lm_q9_13 sc (lm_cal sc d) (lm_rn sc d lm_m9.2.2.2.2.1 (lm_reg lm_m9.2.2.2.2.2))  s0 σ = some r) : lm_rn sc d lm_m9.2.2.2.2.1 (lm_reg lm_m9.2.2.2.2.2) (13, [], [.ref s0]) σ = some r := lm_rn_of h
/-- LatticeSuiteModel.resize, from 0 on -/
noncomputable def lm_q10_0 (sc : lm_H) (A : Nat → List Value → lm_M lm_R) (B : lm_F → lm_M lm_R) (x0 : Nat) (x1 : Int32) (x2 : Int32) : lm_M lm_R :=
  lm_bind (lm_asI (A 52 [.int x1, .int (Int32.ofInt 0), .int (Int32.ofInt 7)])) fun v1 =>
  lm_if .eq v1 0 (B (25, [(0, .ref x0), (1, .int x1), (2, .int x2)], [.ref x0])) (lm_bind (lm_asI (A 52 [.int x2, .int (Int32.ofInt 0), .int (Int32.ofInt 65536)])) fun v2 =>
  lm_if .eq v2 0 (B (25, [(0, .ref x0), (1, .int x1), (2, .int x2)], [.ref x0])) (B (26, [(0, .ref x0), (1, .int x1), (2, .int x2)], [.int (Int32.ofInt 1), .ref x0])))
set_option maxRecDepth 100000 in
theorem lm_e10_0 {sc : lm_H} {d : Nat} {x0 : Nat} {x1 : Int32} {x2 : Int32} {σ : lm_S} {r : Except Nat lm_R × lm_S} (h : lm_q10_0 sc (lm_cal sc d) (lm_rn sc d lm_m10.2.2.2.2.1 (lm_reg lm_m10.2.2.2.2.2)) x0 x1 x2  σ = some r) : lm_rn sc d lm_m10.2.2.2.2.1 (lm_reg lm_m10.2.2.2.2.2) (0, [(0, .ref x0), (1, .int x1), (2, .int x2)], []) σ = some r := lm_rn_of h
/-- LatticeSuiteModel.resize, from 25 on -/
noncomputable def lm_q10_25 (sc : lm_H) (A : Nat → List Value → lm_M lm_R) (B : lm_F → lm_M lm_R) (x0 : Nat) (x1 : Int32) (x2 : Int32) (s0 : Nat) : lm_M lm_R :=
  B (26, [(0, .ref x0), (1, .int x1), (2, .int x2)], [.int (Int32.ofInt 0), .ref s0])
set_option maxRecDepth 100000 in
theorem lm_e10_25 {sc : lm_H} {d : Nat} {x0 : Nat} {x1 : Int32} {x2 : Int32} {s0 : Nat} {σ : lm_S} {r : Except Nat lm_R × lm_S} (h : lm_q10_25 sc (lm_cal sc d) (lm_rn sc d lm_m10.2.2.2.2.1 (lm_reg lm_m10.2.2.2.2.2)) x0 x1 x2 s0 σ = some r) : lm_rn sc d lm_m10.2.2.2.2.1 (lm_reg lm_m10.2.2.2.2.2) (25, [(0, .ref x0), (1, .int x1), (2, .int x2)], [.ref s0]) σ = some r := lm_rn_of h
/-- LatticeSuiteModel.resize, from 26 on -/
noncomputable def lm_q10_26 (sc : lm_H) (A : Nat → List Value → lm_M lm_R) (B : lm_F → lm_M lm_R) (x0 : Nat) (x1 : Int32) (x2 : Int32) (s0 : Int32) (s1 : Nat) : lm_M lm_R :=
  lm_bind (lm_sel [(11, 49)] (some (.ref s1))) fun y1 =>
  lm_bind (lm_asI (A y1 [.ref s1, .int s0, .int (Int32.ofInt 1)])) fun v2 =>
  lm_if .ne v2 0 (lm_bind (lm_gR 4410 x0) fun v3 =>
  lm_bind (lm_iald sc v3 x1) fun v4 =>
  B (45, [(0, .ref x0), (1, .int x1), (2, .int x2), (3, .int v4), (4, .int v4)], [])) (lm_ret (some (.int (Int32.ofInt 0))))
set_option maxRecDepth 100000 in
theorem lm_e10_26 {sc : lm_H} {d : Nat} {x0 : Nat} {x1 : Int32} {x2 : Int32} {s0 : Int32} {s1 : Nat} {σ : lm_S} {r : Except Nat lm_R × lm_S} (h : lm_q10_26 sc (lm_cal sc d) (lm_rn sc d lm_m10.2.2.2.2.1 (lm_reg lm_m10.2.2.2.2.2)) x0 x1 x2 s0 s1 σ = some r) : lm_rn sc d lm_m10.2.2.2.2.1 (lm_reg lm_m10.2.2.2.2.2) (26, [(0, .ref x0), (1, .int x1), (2, .int x2)], [.int s0, .ref s1]) σ = some r := lm_rn_of h
/-- LatticeSuiteModel.resize, from 45 on -/
noncomputable def lm_q10_45 (sc : lm_H) (A : Nat → List Value → lm_M lm_R) (B : lm_F → lm_M lm_R) (x0 : Nat) (x1 : Int32) (x2 : Int32) (x3 : Int32) (x4 : Int32) : lm_M lm_R :=
  lm_if .ge x4 x2 (lm_bind (lm_gR 4410 x0) fun v1 =>
  lm_bind (lm_iast v1 x1 x2) fun _ =>
  lm_ret (some (.int x3))) (lm_bind (lm_gR 4406 x0) fun v2 =>
  lm_bind (lm_aaR sc v2 x1) fun v3 =>
  lm_bind (lm_bast v3 x4 (Int32.ofInt 0)) fun _ =>
  B (45, [(0, .ref x0), (1, .int x1), (2, .int x2), (3, .int x3), (4, .int (x4 + Int32.ofInt 1))], []))
set_option maxRecDepth 100000 in
theorem lm_e10_45 {sc : lm_H} {d : Nat} {x0 : Nat} {x1 : Int32} {x2 : Int32} {x3 : Int32} {x4 : Int32} {σ : lm_S} {r : Except Nat lm_R × lm_S} (h : lm_q10_45 sc (lm_cal sc d) (lm_rn sc d lm_m10.2.2.2.2.1 (lm_reg lm_m10.2.2.2.2.2)) x0 x1 x2 x3 x4  σ = some r) : lm_rn sc d lm_m10.2.2.2.2.1 (lm_reg lm_m10.2.2.2.2.2) (45, [(0, .ref x0), (1, .int x1), (2, .int x2), (3, .int x3), (4, .int x4)], []) σ = some r := lm_rn_of h
/-- LatticeSuiteLaw.alter, from 0 on -/
noncomputable def lm_q11_0 (sc : lm_H) (A : Nat → List Value → lm_M lm_R) (B : lm_F → lm_M lm_R) (x0 : Nat) (x1 : Int32) (x2 : Int32) (x3 : Int32) (x4 : Nat) : lm_M lm_R :=
  lm_bind (lm_sel [(0, 55)] (some (.ref x0))) fun y1 =>
  lm_try (lm_asI (A y1 [.ref x0, .int x1, .int x2, .int x3])) [(13, 15), (12, 19)] (fun v2 =>
  lm_bind (lm_last x4 (Int32.ofInt 0) (Int32.toInt64 v2)) fun _ =>
  lm_ret (some (.int (Int32.ofInt 0)))) (fun h q => B (h, [], [.ref q]))
set_option maxRecDepth 100000 in
theorem lm_e11_0 {sc : lm_H} {d : Nat} {x0 : Nat} {x1 : Int32} {x2 : Int32} {x3 : Int32} {x4 : Nat} {σ : lm_S} {r : Except Nat lm_R × lm_S} (h : lm_q11_0 sc (lm_cal sc d) (lm_rn sc d lm_m11.2.2.2.2.1 (lm_reg lm_m11.2.2.2.2.2)) x0 x1 x2 x3 x4  σ = some r) : lm_rn sc d lm_m11.2.2.2.2.1 (lm_reg lm_m11.2.2.2.2.2) (0, [(0, .ref x0), (1, .int x1), (2, .int x2), (3, .int x3), (4, .ref x4)], []) σ = some r := lm_rn_of h
/-- LatticeSuiteLaw.alter, from 15 on -/
noncomputable def lm_q11_15 (sc : lm_H) (A : Nat → List Value → lm_M lm_R) (B : lm_F → lm_M lm_R)  (s0 : Nat) : lm_M lm_R :=
  lm_ret (some (.int (Int32.ofInt 1)))
set_option maxRecDepth 100000 in
theorem lm_e11_15 {sc : lm_H} {d : Nat}  {s0 : Nat} {σ : lm_S} {r : Except Nat lm_R × lm_S} (h : lm_q11_15 sc (lm_cal sc d) (lm_rn sc d lm_m11.2.2.2.2.1 (lm_reg lm_m11.2.2.2.2.2))  s0 σ = some r) : lm_rn sc d lm_m11.2.2.2.2.1 (lm_reg lm_m11.2.2.2.2.2) (15, [], [.ref s0]) σ = some r := lm_rn_of h
/-- LatticeSuiteLaw.alter, from 19 on -/
noncomputable def lm_q11_19 (sc : lm_H) (A : Nat → List Value → lm_M lm_R) (B : lm_F → lm_M lm_R)  (s0 : Nat) : lm_M lm_R :=
  lm_ret (some (.int (Int32.ofInt 2)))
set_option maxRecDepth 100000 in
theorem lm_e11_19 {sc : lm_H} {d : Nat}  {s0 : Nat} {σ : lm_S} {r : Except Nat lm_R × lm_S} (h : lm_q11_19 sc (lm_cal sc d) (lm_rn sc d lm_m11.2.2.2.2.1 (lm_reg lm_m11.2.2.2.2.2))  s0 σ = some r) : lm_rn sc d lm_m11.2.2.2.2.1 (lm_reg lm_m11.2.2.2.2.2) (19, [], [.ref s0]) σ = some r := lm_rn_of h
/-- LatticeSuiteModel.alter, from 0 on -/
noncomputable def lm_q12_0 (sc : lm_H) (A : Nat → List Value → lm_M lm_R) (B : lm_F → lm_M lm_R) (x0 : Nat) (x1 : Int32) (x2 : Int32) (x3 : Int32) : lm_M lm_R :=
  lm_bind (lm_asI (A 52 [.int x1, .int (Int32.ofInt 0), .int (Int32.ofInt 7)])) fun v1 =>
  lm_if .eq v1 0 (B (26, [(0, .ref x0), (1, .int x1), (2, .int x2), (3, .int x3)], [.ref x0])) (lm_bind (lm_asI (A 52 [.int x3, .int (Int32.ofInt 0), .int (Int32.ofInt 255)])) fun v2 =>
  lm_if .eq v2 0 (B (26, [(0, .ref x0), (1, .int x1), (2, .int x2), (3, .int x3)], [.ref x0])) (B (27, [(0, .ref x0), (1, .int x1), (2, .int x2), (3, .int x3)], [.int (Int32.ofInt 1), .ref x0])))
set_option maxRecDepth 100000 in
theorem lm_e12_0 {sc : lm_H} {d : Nat} {x0 : Nat} {x1 : Int32} {x2 : Int32} {x3 : Int32} {σ : lm_S} {r : Except Nat lm_R × lm_S} (h : lm_q12_0 sc (lm_cal sc d) (lm_rn sc d lm_m12.2.2.2.2.1 (lm_reg lm_m12.2.2.2.2.2)) x0 x1 x2 x3  σ = some r) : lm_rn sc d lm_m12.2.2.2.2.1 (lm_reg lm_m12.2.2.2.2.2) (0, [(0, .ref x0), (1, .int x1), (2, .int x2), (3, .int x3)], []) σ = some r := lm_rn_of h
/-- LatticeSuiteModel.alter, from 26 on -/
noncomputable def lm_q12_26 (sc : lm_H) (A : Nat → List Value → lm_M lm_R) (B : lm_F → lm_M lm_R) (x0 : Nat) (x1 : Int32) (x2 : Int32) (x3 : Int32) (s0 : Nat) : lm_M lm_R :=
  B (27, [(0, .ref x0), (1, .int x1), (2, .int x2), (3, .int x3)], [.int (Int32.ofInt 0), .ref s0])
set_option maxRecDepth 100000 in
theorem lm_e12_26 {sc : lm_H} {d : Nat} {x0 : Nat} {x1 : Int32} {x2 : Int32} {x3 : Int32} {s0 : Nat} {σ : lm_S} {r : Except Nat lm_R × lm_S} (h : lm_q12_26 sc (lm_cal sc d) (lm_rn sc d lm_m12.2.2.2.2.1 (lm_reg lm_m12.2.2.2.2.2)) x0 x1 x2 x3 s0 σ = some r) : lm_rn sc d lm_m12.2.2.2.2.1 (lm_reg lm_m12.2.2.2.2.2) (26, [(0, .ref x0), (1, .int x1), (2, .int x2), (3, .int x3)], [.ref s0]) σ = some r := lm_rn_of h
/-- LatticeSuiteModel.alter, from 27 on -/
noncomputable def lm_q12_27 (sc : lm_H) (A : Nat → List Value → lm_M lm_R) (B : lm_F → lm_M lm_R) (x0 : Nat) (x1 : Int32) (x2 : Int32) (x3 : Int32) (s0 : Int32) (s1 : Nat) : lm_M lm_R :=
  lm_bind (lm_sel [(11, 49)] (some (.ref s1))) fun y1 =>
  lm_bind (lm_asI (A y1 [.ref s1, .int s0, .int (Int32.ofInt 1)])) fun v2 =>
  lm_if .eq v2 0 (lm_ret (some (.int (Int32.ofInt 0)))) (lm_bind (lm_gR 4410 x0) fun v3 =>
  lm_bind (lm_iald sc v3 x1) fun v4 =>
  lm_bind (lm_asI (A 52 [.int x2, .int (Int32.ofInt 0), .int (v4 - (Int32.ofInt 1))])) fun v5 =>
  lm_bind (lm_sel [(11, 49)] (some (.ref x0))) fun y6 =>
  lm_bind (lm_asI (A y6 [.ref x0, .int v5, .int (Int32.ofInt 2)])) fun v7 =>
  lm_if .ne v7 0 (lm_bind (lm_gR 4406 x0) fun v8 =>
  lm_bind (lm_aaR sc v8 x1) fun v9 =>
  lm_bind (lm_bald sc v9 x2) fun v10 =>
  lm_bind (lm_bast v9 x2 (lm_b8 (v10 ^^^ (lm_b8 x3)))) fun _ =>
  lm_bind (lm_gR 4406 x0) fun v11 =>
  lm_bind (lm_aaR sc v11 x1) fun v12 =>
  lm_bind (lm_bald sc v12 x2) fun v13 =>
  lm_ret (some (.int (v13 &&& (Int32.ofInt 255))))) (lm_ret (some (.int (Int32.ofInt 0)))))
set_option maxRecDepth 100000 in
theorem lm_e12_27 {sc : lm_H} {d : Nat} {x0 : Nat} {x1 : Int32} {x2 : Int32} {x3 : Int32} {s0 : Int32} {s1 : Nat} {σ : lm_S} {r : Except Nat lm_R × lm_S} (h : lm_q12_27 sc (lm_cal sc d) (lm_rn sc d lm_m12.2.2.2.2.1 (lm_reg lm_m12.2.2.2.2.2)) x0 x1 x2 x3 s0 s1 σ = some r) : lm_rn sc d lm_m12.2.2.2.2.1 (lm_reg lm_m12.2.2.2.2.2) (27, [(0, .ref x0), (1, .int x1), (2, .int x2), (3, .int x3)], [.int s0, .ref s1]) σ = some r := lm_rn_of h
/-- LatticeSuiteLaw.length, from 0 on -/
noncomputable def lm_q13_0 (sc : lm_H) (A : Nat → List Value → lm_M lm_R) (B : lm_F → lm_M lm_R) (x0 : Nat) (x1 : Int32) (x2 : Nat) : lm_M lm_R :=
  lm_bind (lm_sel [(0, 56)] (some (.ref x0))) fun y1 =>
  lm_try (lm_asI (A y1 [.ref x0, .int x1])) [(13, 12)] (fun v2 =>
  lm_bind (lm_last x2 (Int32.ofInt 0) (Int32.toInt64 v2)) fun _ =>
  lm_ret (some (.int (Int32.ofInt 0)))) (fun h q => B (h, [], [.ref q]))
set_option maxRecDepth 100000 in
theorem lm_e13_0 {sc : lm_H} {d : Nat} {x0 : Nat} {x1 : Int32} {x2 : Nat} {σ : lm_S} {r : Except Nat lm_R × lm_S} (h : lm_q13_0 sc (lm_cal sc d) (lm_rn sc d lm_m13.2.2.2.2.1 (lm_reg lm_m13.2.2.2.2.2)) x0 x1 x2  σ = some r) : lm_rn sc d lm_m13.2.2.2.2.1 (lm_reg lm_m13.2.2.2.2.2) (0, [(0, .ref x0), (1, .int x1), (2, .ref x2)], []) σ = some r := lm_rn_of h
/-- LatticeSuiteLaw.length, from 12 on -/
noncomputable def lm_q13_12 (sc : lm_H) (A : Nat → List Value → lm_M lm_R) (B : lm_F → lm_M lm_R)  (s0 : Nat) : lm_M lm_R :=
  lm_ret (some (.int (Int32.ofInt 1)))
set_option maxRecDepth 100000 in
theorem lm_e13_12 {sc : lm_H} {d : Nat}  {s0 : Nat} {σ : lm_S} {r : Except Nat lm_R × lm_S} (h : lm_q13_12 sc (lm_cal sc d) (lm_rn sc d lm_m13.2.2.2.2.1 (lm_reg lm_m13.2.2.2.2.2))  s0 σ = some r) : lm_rn sc d lm_m13.2.2.2.2.1 (lm_reg lm_m13.2.2.2.2.2) (12, [], [.ref s0]) σ = some r := lm_rn_of h
/-- LatticeSuiteModel.length, from 0 on -/
noncomputable def lm_q14_0 (sc : lm_H) (A : Nat → List Value → lm_M lm_R) (B : lm_F → lm_M lm_R) (x0 : Nat) (x1 : Int32) : lm_M lm_R :=
  lm_bind (lm_asI (A 52 [.int x1, .int (Int32.ofInt 0), .int (Int32.ofInt 7)])) fun v1 =>
  lm_bind (lm_sel [(11, 49)] (some (.ref x0))) fun y2 =>
  lm_bind (lm_asI (A y2 [.ref x0, .int v1, .int (Int32.ofInt 1)])) fun v3 =>
  lm_if .ne v3 0 (lm_bind (lm_gR 4410 x0) fun v4 =>
  lm_bind (lm_iald sc v4 x1) fun v5 =>
  lm_ret (some (.int v5))) (lm_ret (some (.int (Int32.ofInt 0))))
set_option maxRecDepth 100000 in
theorem lm_e14_0 {sc : lm_H} {d : Nat} {x0 : Nat} {x1 : Int32} {σ : lm_S} {r : Except Nat lm_R × lm_S} (h : lm_q14_0 sc (lm_cal sc d) (lm_rn sc d lm_m14.2.2.2.2.1 (lm_reg lm_m14.2.2.2.2.2)) x0 x1  σ = some r) : lm_rn sc d lm_m14.2.2.2.2.1 (lm_reg lm_m14.2.2.2.2.2) (0, [(0, .ref x0), (1, .int x1)], []) σ = some r := lm_rn_of h
/-- LatticeSuiteLaw.word, from 0 on -/
noncomputable def lm_q15_0 (sc : lm_H) (A : Nat → List Value → lm_M lm_R) (B : lm_F → lm_M lm_R) (x0 : Nat) (x1 : Int32) (x2 : Int32) (x3 : Nat) : lm_M lm_R :=
  lm_bind (lm_sel [(0, 57)] (some (.ref x0))) fun y1 =>
  lm_try (lm_asL (A y1 [.ref x0, .int x1, .int x2])) [(13, 12), (12, 16)] (fun v2 =>
  lm_bind (lm_last x3 (Int32.ofInt 0) v2) fun _ =>
  lm_ret (some (.int (Int32.ofInt 0)))) (fun h q => B (h, [], [.ref q]))
set_option maxRecDepth 100000 in
theorem lm_e15_0 {sc : lm_H} {d : Nat} {x0 : Nat} {x1 : Int32} {x2 : Int32} {x3 : Nat} {σ : lm_S} {r : Except Nat lm_R × lm_S} (h : lm_q15_0 sc (lm_cal sc d) (lm_rn sc d lm_m15.2.2.2.2.1 (lm_reg lm_m15.2.2.2.2.2)) x0 x1 x2 x3  σ = some r) : lm_rn sc d lm_m15.2.2.2.2.1 (lm_reg lm_m15.2.2.2.2.2) (0, [(0, .ref x0), (1, .int x1), (2, .int x2), (3, .ref x3)], []) σ = some r := lm_rn_of h
/-- LatticeSuiteLaw.word, from 12 on -/
noncomputable def lm_q15_12 (sc : lm_H) (A : Nat → List Value → lm_M lm_R) (B : lm_F → lm_M lm_R)  (s0 : Nat) : lm_M lm_R :=
  lm_ret (some (.int (Int32.ofInt 1)))
set_option maxRecDepth 100000 in
theorem lm_e15_12 {sc : lm_H} {d : Nat}  {s0 : Nat} {σ : lm_S} {r : Except Nat lm_R × lm_S} (h : lm_q15_12 sc (lm_cal sc d) (lm_rn sc d lm_m15.2.2.2.2.1 (lm_reg lm_m15.2.2.2.2.2))  s0 σ = some r) : lm_rn sc d lm_m15.2.2.2.2.1 (lm_reg lm_m15.2.2.2.2.2) (12, [], [.ref s0]) σ = some r := lm_rn_of h
/-- LatticeSuiteLaw.word, from 16 on -/
noncomputable def lm_q15_16 (sc : lm_H) (A : Nat → List Value → lm_M lm_R) (B : lm_F → lm_M lm_R)  (s0 : Nat) : lm_M lm_R :=
  lm_ret (some (.int (Int32.ofInt 2)))
set_option maxRecDepth 100000 in
theorem lm_e15_16 {sc : lm_H} {d : Nat}  {s0 : Nat} {σ : lm_S} {r : Except Nat lm_R × lm_S} (h : lm_q15_16 sc (lm_cal sc d) (lm_rn sc d lm_m15.2.2.2.2.1 (lm_reg lm_m15.2.2.2.2.2))  s0 σ = some r) : lm_rn sc d lm_m15.2.2.2.2.1 (lm_reg lm_m15.2.2.2.2.2) (16, [], [.ref s0]) σ = some r := lm_rn_of h
/-- LatticeSuiteModel.word, from 0 on -/
noncomputable def lm_q16_0 (sc : lm_H) (A : Nat → List Value → lm_M lm_R) (B : lm_F → lm_M lm_R) (x0 : Nat) (x1 : Int32) (x2 : Int32) : lm_M lm_R :=
  lm_bind (lm_asI (A 52 [.int x1, .int (Int32.ofInt 0), .int (Int32.ofInt 7)])) fun v1 =>
  lm_bind (lm_sel [(11, 49)] (some (.ref x0))) fun y2 =>
  lm_bind (lm_asI (A y2 [.ref x0, .int v1, .int (Int32.ofInt 1)])) fun v3 =>
  lm_if .eq v3 0 (lm_ret (some (.long (Int64.ofNat 0)))) (lm_bind (lm_gR 4410 x0) fun v4 =>
  lm_bind (lm_iald sc v4 x1) fun v5 =>
  lm_bind (lm_asI (A 52 [.int x2, .int (Int32.ofInt 0), .int (v5 - (Int32.ofInt 1))])) fun v6 =>
  lm_bind (lm_sel [(11, 49)] (some (.ref x0))) fun y7 =>
  lm_bind (lm_asI (A y7 [.ref x0, .int v6, .int (Int32.ofInt 2)])) fun v8 =>
  lm_if .ne v8 0 (B (43, [(0, .ref x0), (1, .int x1), (2, .int x2), (3, .long (Int64.ofNat 0)), (5, .int x2)], [])) (lm_ret (some (.long (Int64.ofNat 0)))))
set_option maxRecDepth 100000 in
theorem lm_e16_0 {sc : lm_H} {d : Nat} {x0 : Nat} {x1 : Int32} {x2 : Int32} {σ : lm_S} {r : Except Nat lm_R × lm_S} (h : lm_q16_0 sc (lm_cal sc d) (lm_rn sc d lm_m16.2.2.2.2.1 (lm_reg lm_m16.2.2.2.2.2)) x0 x1 x2  σ = some r) : lm_rn sc d lm_m16.2.2.2.2.1 (lm_reg lm_m16.2.2.2.2.2) (0, [(0, .ref x0), (1, .int x1), (2, .int x2)], []) σ = some r := lm_rn_of h
/-- LatticeSuiteModel.word, from 43 on -/
noncomputable def lm_q16_43 (sc : lm_H) (A : Nat → List Value → lm_M lm_R) (B : lm_F → lm_M lm_R) (x0 : Nat) (x1 : Int32) (x2 : Int32) (x3 : Int64) (x5 : Int32) : lm_M lm_R :=
  lm_if .ge x5 (x2 + (Int32.ofInt 8)) (lm_ret (some (.long x3))) (lm_bind (lm_gR 4410 x0) fun v1 =>
  lm_bind (lm_iald sc v1 x1) fun v2 =>
  lm_if .ge x5 v2 (B (85, [(0, .ref x0), (1, .int x1), (2, .int x2), (5, .int x5)], [.long (Int64.ofNat 0), .long (x3 <<< ((Int32.toInt64 (Int32.ofInt 8)) &&& 63))])) (lm_bind (lm_gR 4406 x0) fun v3 =>
  lm_bind (lm_aaR sc v3 x1) fun v4 =>
  lm_bind (lm_bald sc v4 x5) fun v5 =>
  B (85, [(0, .ref x0), (1, .int x1), (2, .int x2), (5, .int x5)], [.long ((Int32.toInt64 v5) &&& (Int64.ofNat 255)), .long (x3 <<< ((Int32.toInt64 (Int32.ofInt 8)) &&& 63))])))
set_option maxRecDepth 100000 in
theorem lm_e16_43 {sc : lm_H} {d : Nat} {x0 : Nat} {x1 : Int32} {x2 : Int32} {x3 : Int64} {x5 : Int32} {σ : lm_S} {r : Except Nat lm_R × lm_S} (h : lm_q16_43 sc (lm_cal sc d) (lm_rn sc d lm_m16.2.2.2.2.1 (lm_reg lm_m16.2.2.2.2.2)) x0 x1 x2 x3 x5  σ = some r) : lm_rn sc d lm_m16.2.2.2.2.1 (lm_reg lm_m16.2.2.2.2.2) (43, [(0, .ref x0), (1, .int x1), (2, .int x2), (3, .long x3), (5, .int x5)], []) σ = some r := lm_rn_of h
/-- LatticeSuiteModel.word, from 85 on -/
noncomputable def lm_q16_85 (sc : lm_H) (A : Nat → List Value → lm_M lm_R) (B : lm_F → lm_M lm_R) (x0 : Nat) (x1 : Int32) (x2 : Int32) (x5 : Int32) (s0 : Int64) (s1 : Int64) : lm_M lm_R :=
  B (43, [(0, .ref x0), (1, .int x1), (2, .int x2), (3, .long (s1 ||| s0)), (5, .int (x5 + Int32.ofInt 1))], [])
set_option maxRecDepth 100000 in
theorem lm_e16_85 {sc : lm_H} {d : Nat} {x0 : Nat} {x1 : Int32} {x2 : Int32} {x5 : Int32} {s0 : Int64} {s1 : Int64} {σ : lm_S} {r : Except Nat lm_R × lm_S} (h : lm_q16_85 sc (lm_cal sc d) (lm_rn sc d lm_m16.2.2.2.2.1 (lm_reg lm_m16.2.2.2.2.2)) x0 x1 x2 x5 s0 s1 σ = some r) : lm_rn sc d lm_m16.2.2.2.2.1 (lm_reg lm_m16.2.2.2.2.2) (85, [(0, .ref x0), (1, .int x1), (2, .int x2), (5, .int x5)], [.long s0, .long s1]) σ = some r := lm_rn_of h
/-- LatticeSuiteLaw.same, from 0 on -/
noncomputable def lm_q17_0 (sc : lm_H) (A : Nat → List Value → lm_M lm_R) (B : lm_F → lm_M lm_R) (x0 : Nat) (x1 : Int32) (x2 : Int32) (x3 : Nat) : lm_M lm_R :=
  lm_bind (lm_sel [(0, 58)] (some (.ref x0))) fun y1 =>
  lm_try (lm_asI (A y1 [.ref x0, .int x1, .int x2])) [(13, 20)] (fun v2 =>
  lm_if .eq v2 0 (B (16, [], [.long (Int64.ofNat 0), .int (Int32.ofInt 0), .ref x3])) (B (16, [], [.long (Int64.ofNat 1), .int (Int32.ofInt 0), .ref x3]))) (fun h q => B (h, [], [.ref q]))
set_option maxRecDepth 100000 in
theorem lm_e17_0 {sc : lm_H} {d : Nat} {x0 : Nat} {x1 : Int32} {x2 : Int32} {x3 : Nat} {σ : lm_S} {r : Except Nat lm_R × lm_S} (h : lm_q17_0 sc (lm_cal sc d) (lm_rn sc d lm_m17.2.2.2.2.1 (lm_reg lm_m17.2.2.2.2.2)) x0 x1 x2 x3  σ = some r) : lm_rn sc d lm_m17.2.2.2.2.1 (lm_reg lm_m17.2.2.2.2.2) (0, [(0, .ref x0), (1, .int x1), (2, .int x2), (3, .ref x3)], []) σ = some r := lm_rn_of h
/-- LatticeSuiteLaw.same, from 16 on -/
noncomputable def lm_q17_16 (sc : lm_H) (A : Nat → List Value → lm_M lm_R) (B : lm_F → lm_M lm_R)  (s0 : Int64) (s1 : Int32) (s2 : Nat) : lm_M lm_R :=
  lm_bind (lm_last s2 s1 s0) fun _ =>
  lm_ret (some (.int (Int32.ofInt 0)))
set_option maxRecDepth 100000 in
theorem lm_e17_16 {sc : lm_H} {d : Nat}  {s0 : Int64} {s1 : Int32} {s2 : Nat} {σ : lm_S} {r : Except Nat lm_R × lm_S} (h : lm_q17_16 sc (lm_cal sc d) (lm_rn sc d lm_m17.2.2.2.2.1 (lm_reg lm_m17.2.2.2.2.2))  s0 s1 s2 σ = some r) : lm_rn sc d lm_m17.2.2.2.2.1 (lm_reg lm_m17.2.2.2.2.2) (16, [], [.long s0, .int s1, .ref s2]) σ = some r := lm_rn_of h
/-- LatticeSuiteLaw.same, from 20 on -/
noncomputable def lm_q17_20 (sc : lm_H) (A : Nat → List Value → lm_M lm_R) (B : lm_F → lm_M lm_R)  (s0 : Nat) : lm_M lm_R :=
  lm_ret (some (.int (Int32.ofInt 1)))
set_option maxRecDepth 100000 in
theorem lm_e17_20 {sc : lm_H} {d : Nat}  {s0 : Nat} {σ : lm_S} {r : Except Nat lm_R × lm_S} (h : lm_q17_20 sc (lm_cal sc d) (lm_rn sc d lm_m17.2.2.2.2.1 (lm_reg lm_m17.2.2.2.2.2))  s0 σ = some r) : lm_rn sc d lm_m17.2.2.2.2.1 (lm_reg lm_m17.2.2.2.2.2) (20, [], [.ref s0]) σ = some r := lm_rn_of h
/-- LatticeSuiteModel.same, from 0 on -/
noncomputable def lm_q18_0 (sc : lm_H) (A : Nat → List Value → lm_M lm_R) (B : lm_F → lm_M lm_R) (x0 : Nat) (x1 : Int32) (x2 : Int32) : lm_M lm_R :=
  lm_bind (lm_asI (A 52 [.int x1, .int (Int32.ofInt 0), .int (Int32.ofInt 7)])) fun v1 =>
  lm_if .eq v1 0 (B (25, [(0, .ref x0), (1, .int x1), (2, .int x2)], [.ref x0])) (lm_bind (lm_asI (A 52 [.int x2, .int (Int32.ofInt 0), .int (Int32.ofInt 7)])) fun v2 =>
  lm_if .eq v2 0 (B (25, [(0, .ref x0), (1, .int x1), (2, .int x2)], [.ref x0])) (B (26, [(0, .ref x0), (1, .int x1), (2, .int x2)], [.int (Int32.ofInt 1), .ref x0])))
set_option maxRecDepth 100000 in
theorem lm_e18_0 {sc : lm_H} {d : Nat} {x0 : Nat} {x1 : Int32} {x2 : Int32} {σ : lm_S} {r : Except Nat lm_R × lm_S} (h : lm_q18_0 sc (lm_cal sc d) (lm_rn sc d lm_m18.2.2.2.2.1 (lm_reg lm_m18.2.2.2.2.2)) x0 x1 x2  σ = some r) : lm_rn sc d lm_m18.2.2.2.2.1 (lm_reg lm_m18.2.2.2.2.2) (0, [(0, .ref x0), (1, .int x1), (2, .int x2)], []) σ = some r := lm_rn_of h
/-- LatticeSuiteModel.same, from 25 on -/
noncomputable def lm_q18_25 (sc : lm_H) (A : Nat → List Value → lm_M lm_R) (B : lm_F → lm_M lm_R) (x0 : Nat) (x1 : Int32) (x2 : Int32) (s0 : Nat) : lm_M lm_R :=
  B (26, [(0, .ref x0), (1, .int x1), (2, .int x2)], [.int (Int32.ofInt 0), .ref s0])
set_option maxRecDepth 100000 in
theorem lm_e18_25 {sc : lm_H} {d : Nat} {x0 : Nat} {x1 : Int32} {x2 : Int32} {s0 : Nat} {σ : lm_S} {r : Except Nat lm_R × lm_S} (h : lm_q18_25 sc (lm_cal sc d) (lm_rn sc d lm_m18.2.2.2.2.1 (lm_reg lm_m18.2.2.2.2.2)) x0 x1 x2 s0 σ = some r) : lm_rn sc d lm_m18.2.2.2.2.1 (lm_reg lm_m18.2.2.2.2.2) (25, [(0, .ref x0), (1, .int x1), (2, .int x2)], [.ref s0]) σ = some r := lm_rn_of h
/-- LatticeSuiteModel.same, from 26 on -/
noncomputable def lm_q18_26 (sc : lm_H) (A : Nat → List Value → lm_M lm_R) (B : lm_F → lm_M lm_R) (x0 : Nat) (x1 : Int32) (x2 : Int32) (s0 : Int32) (s1 : Nat) : lm_M lm_R :=
  lm_bind (lm_sel [(11, 49)] (some (.ref s1))) fun y1 =>
  lm_bind (lm_asI (A y1 [.ref s1, .int s0, .int (Int32.ofInt 1)])) fun v2 =>
  lm_if .ne v2 0 (lm_bind (lm_gR 4410 x0) fun v3 =>
  lm_bind (lm_iald sc v3 x1) fun v4 =>
  lm_bind (lm_gR 4410 x0) fun v5 =>
  lm_bind (lm_iald sc v5 x2) fun v6 =>
  lm_if .eq v4 v6 (B (57, [(0, .ref x0), (1, .int x1), (2, .int x2), (3, .int (Int32.ofInt 1)), (4, .int (Int32.ofInt 0))], [])) (lm_when ((Int32.ofInt 0) = 0 ∨ (Int32.ofInt 0) = 1) inferInstance (lm_ret (some (.int (Int32.ofInt 0)))))) (lm_when ((Int32.ofInt 0) = 0 ∨ (Int32.ofInt 0) = 1) inferInstance (lm_ret (some (.int (Int32.ofInt 0)))))
set_option maxRecDepth 100000 in
theorem lm_e18_26 {sc : lm_H} {d : Nat} {x0 : Nat} {x1 : Int32} {x2 : Int32} {s0 : Int32} {s1 : Nat} {σ : lm_S} {r : Except Nat lm_R × lm_S} (h : lm_q18_26 sc (lm_cal sc d) (lm_rn sc d lm_m18.2.2.2.2.1 (lm_reg lm_m18.2.2.2.2.2)) x0 x1 x2 s0 s1 σ = some r) : lm_rn sc d lm_m18.2.2.2.2.1 (lm_reg lm_m18.2.2.2.2.2) (26, [(0, .ref x0), (1, .int x1), (2, .int x2)], [.int s0, .ref s1]) σ = some r := lm_rn_of h
/-- LatticeSuiteModel.same, from 57 on -/
noncomputable def lm_q18_57 (sc : lm_H) (A : Nat → List Value → lm_M lm_R) (B : lm_F → lm_M lm_R) (x0 : Nat) (x1 : Int32) (x2 : Int32) (x3 : Int32) (x4 : Int32) : lm_M lm_R :=
  lm_bind (lm_gR 4410 x0) fun v1 =>
  lm_bind (lm_iald sc v1 x1) fun v2 =>
  lm_if .ge x4 v2 (lm_when (x3 = 0 ∨ x3 = 1) inferInstance (lm_ret (some (.int x3)))) (lm_bind (lm_gR 4406 x0) fun v3 =>
  lm_bind (lm_aaR sc v3 x1) fun v4 =>
  lm_bind (lm_bald sc v4 x4) fun v5 =>
  lm_bind (lm_gR 4406 x0) fun v6 =>
  lm_bind (lm_aaR sc v6 x2) fun v7 =>
  lm_bind (lm_bald sc v7 x4) fun v8 =>
  lm_if .eq v5 v8 (B (91, [(0, .ref x0), (1, .int x1), (2, .int x2), (3, .int x3), (4, .int x4)], [])) (B (91, [(0, .ref x0), (1, .int x1), (2, .int x2), (3, .int (Int32.ofInt 0)), (4, .int x4)], [])))
set_option maxRecDepth 100000 in
theorem lm_e18_57 {sc : lm_H} {d : Nat} {x0 : Nat} {x1 : Int32} {x2 : Int32} {x3 : Int32} {x4 : Int32} {σ : lm_S} {r : Except Nat lm_R × lm_S} (h : lm_q18_57 sc (lm_cal sc d) (lm_rn sc d lm_m18.2.2.2.2.1 (lm_reg lm_m18.2.2.2.2.2)) x0 x1 x2 x3 x4  σ = some r) : lm_rn sc d lm_m18.2.2.2.2.1 (lm_reg lm_m18.2.2.2.2.2) (57, [(0, .ref x0), (1, .int x1), (2, .int x2), (3, .int x3), (4, .int x4)], []) σ = some r := lm_rn_of h
/-- LatticeSuiteModel.same, from 91 on -/
noncomputable def lm_q18_91 (sc : lm_H) (A : Nat → List Value → lm_M lm_R) (B : lm_F → lm_M lm_R) (x0 : Nat) (x1 : Int32) (x2 : Int32) (x3 : Int32) (x4 : Int32) : lm_M lm_R :=
  B (57, [(0, .ref x0), (1, .int x1), (2, .int x2), (3, .int x3), (4, .int (x4 + Int32.ofInt 1))], [])
set_option maxRecDepth 100000 in
theorem lm_e18_91 {sc : lm_H} {d : Nat} {x0 : Nat} {x1 : Int32} {x2 : Int32} {x3 : Int32} {x4 : Int32} {σ : lm_S} {r : Except Nat lm_R × lm_S} (h : lm_q18_91 sc (lm_cal sc d) (lm_rn sc d lm_m18.2.2.2.2.1 (lm_reg lm_m18.2.2.2.2.2)) x0 x1 x2 x3 x4  σ = some r) : lm_rn sc d lm_m18.2.2.2.2.1 (lm_reg lm_m18.2.2.2.2.2) (91, [(0, .ref x0), (1, .int x1), (2, .int x2), (3, .int x3), (4, .int x4)], []) σ = some r := lm_rn_of h
/-- LatticeSuiteLaw.digest, from 0 on -/
noncomputable def lm_q19_0 (sc : lm_H) (A : Nat → List Value → lm_M lm_R) (B : lm_F → lm_M lm_R) (x0 : Nat) (x1 : Int32) (x2 : Int32) (x3 : Nat) : lm_M lm_R :=
  lm_bind (lm_sel [(0, 59)] (some (.ref x0))) fun y1 =>
  lm_try (lm_asI (A y1 [.ref x0, .int x1, .int x2])) [(13, 13)] (fun v2 =>
  lm_bind (lm_last x3 (Int32.ofInt 0) (Int32.toInt64 v2)) fun _ =>
  lm_ret (some (.int (Int32.ofInt 0)))) (fun h q => B (h, [], [.ref q]))
set_option maxRecDepth 100000 in
theorem lm_e19_0 {sc : lm_H} {d : Nat} {x0 : Nat} {x1 : Int32} {x2 : Int32} {x3 : Nat} {σ : lm_S} {r : Except Nat lm_R × lm_S} (h : lm_q19_0 sc (lm_cal sc d) (lm_rn sc d lm_m19.2.2.2.2.1 (lm_reg lm_m19.2.2.2.2.2)) x0 x1 x2 x3  σ = some r) : lm_rn sc d lm_m19.2.2.2.2.1 (lm_reg lm_m19.2.2.2.2.2) (0, [(0, .ref x0), (1, .int x1), (2, .int x2), (3, .ref x3)], []) σ = some r := lm_rn_of h
/-- LatticeSuiteLaw.digest, from 13 on -/
noncomputable def lm_q19_13 (sc : lm_H) (A : Nat → List Value → lm_M lm_R) (B : lm_F → lm_M lm_R)  (s0 : Nat) : lm_M lm_R :=
  lm_ret (some (.int (Int32.ofInt 1)))
set_option maxRecDepth 100000 in
theorem lm_e19_13 {sc : lm_H} {d : Nat}  {s0 : Nat} {σ : lm_S} {r : Except Nat lm_R × lm_S} (h : lm_q19_13 sc (lm_cal sc d) (lm_rn sc d lm_m19.2.2.2.2.1 (lm_reg lm_m19.2.2.2.2.2))  s0 σ = some r) : lm_rn sc d lm_m19.2.2.2.2.1 (lm_reg lm_m19.2.2.2.2.2) (13, [], [.ref s0]) σ = some r := lm_rn_of h
/-- LatticeSuiteModel.digest, from 0 on -/
noncomputable def lm_q20_0 (sc : lm_H) (A : Nat → List Value → lm_M lm_R) (B : lm_F → lm_M lm_R) (x0 : Nat) (x1 : Int32) (x2 : Int32) : lm_M lm_R :=
  lm_bind (lm_asI (A 52 [.int x1, .int (Int32.ofInt 1), .int (Int32.ofInt 16)])) fun v1 =>
  lm_if .eq v1 0 (B (25, [(0, .ref x0), (1, .int x1), (2, .int x2)], [.ref x0])) (lm_bind (lm_asI (A 52 [.int x2, .int (Int32.ofInt 0), .int (Int32.ofInt 65536)])) fun v2 =>
  lm_if .eq v2 0 (B (25, [(0, .ref x0), (1, .int x1), (2, .int x2)], [.ref x0])) (B (26, [(0, .ref x0), (1, .int x1), (2, .int x2)], [.int (Int32.ofInt 1), .ref x0])))
set_option maxRecDepth 100000 in
theorem lm_e20_0 {sc : lm_H} {d : Nat} {x0 : Nat} {x1 : Int32} {x2 : Int32} {σ : lm_S} {r : Except Nat lm_R × lm_S} (h : lm_q20_0 sc (lm_cal sc d) (lm_rn sc d lm_m20.2.2.2.2.1 (lm_reg lm_m20.2.2.2.2.2)) x0 x1 x2  σ = some r) : lm_rn sc d lm_m20.2.2.2.2.1 (lm_reg lm_m20.2.2.2.2.2) (0, [(0, .ref x0), (1, .int x1), (2, .int x2)], []) σ = some r := lm_rn_of h
/-- LatticeSuiteModel.digest, from 25 on -/
noncomputable def lm_q20_25 (sc : lm_H) (A : Nat → List Value → lm_M lm_R) (B : lm_F → lm_M lm_R) (x0 : Nat) (x1 : Int32) (x2 : Int32) (s0 : Nat) : lm_M lm_R :=
  B (26, [(0, .ref x0), (1, .int x1), (2, .int x2)], [.int (Int32.ofInt 0), .ref s0])
set_option maxRecDepth 100000 in
theorem lm_e20_25 {sc : lm_H} {d : Nat} {x0 : Nat} {x1 : Int32} {x2 : Int32} {s0 : Nat} {σ : lm_S} {r : Except Nat lm_R × lm_S} (h : lm_q20_25 sc (lm_cal sc d) (lm_rn sc d lm_m20.2.2.2.2.1 (lm_reg lm_m20.2.2.2.2.2)) x0 x1 x2 s0 σ = some r) : lm_rn sc d lm_m20.2.2.2.2.1 (lm_reg lm_m20.2.2.2.2.2) (25, [(0, .ref x0), (1, .int x1), (2, .int x2)], [.ref s0]) σ = some r := lm_rn_of h
/-- LatticeSuiteModel.digest, from 26 on -/
noncomputable def lm_q20_26 (sc : lm_H) (A : Nat → List Value → lm_M lm_R) (B : lm_F → lm_M lm_R) (x0 : Nat) (x1 : Int32) (x2 : Int32) (s0 : Int32) (s1 : Nat) : lm_M lm_R :=
  lm_bind (lm_sel [(11, 49)] (some (.ref s1))) fun y1 =>
  lm_bind (lm_asI (A y1 [.ref s1, .int s0, .int (Int32.ofInt 1)])) fun v2 =>
  lm_if .ne v2 0 (lm_if .ne x1 (Int32.ofInt 13) (lm_if .ne x1 (Int32.ofInt 14) (lm_if .gt x1 (Int32.ofInt 14) (B (75, [(0, .ref x0), (1, .int x1), (2, .int x2)], [])) (lm_if .le x1 (Int32.ofInt 10) (B (79, [(0, .ref x0), (1, .int x1)], [])) (lm_if .ge x1 (Int32.ofInt 13) (B (79, [(0, .ref x0), (1, .int x1)], [])) (B (75, [(0, .ref x0), (1, .int x1), (2, .int x2)], []))))) (B (83, [(0, .ref x0), (1, .int x1)], [.int (Int32.ofInt 64)]))) (B (83, [(0, .ref x0), (1, .int x1)], [.int (Int32.ofInt 32)]))) (lm_ret (some (.int (Int32.ofInt 0))))
set_option maxRecDepth 100000 in
theorem lm_e20_26 {sc : lm_H} {d : Nat} {x0 : Nat} {x1 : Int32} {x2 : Int32} {s0 : Int32} {s1 : Nat} {σ : lm_S} {r : Except Nat lm_R × lm_S} (h : lm_q20_26 sc (lm_cal sc d) (lm_rn sc d lm_m20.2.2.2.2.1 (lm_reg lm_m20.2.2.2.2.2)) x0 x1 x2 s0 s1 σ = some r) : lm_rn sc d lm_m20.2.2.2.2.1 (lm_reg lm_m20.2.2.2.2.2) (26, [(0, .ref x0), (1, .int x1), (2, .int x2)], [.int s0, .ref s1]) σ = some r := lm_rn_of h
/-- LatticeSuiteModel.digest, from 75 on -/
noncomputable def lm_q20_75 (sc : lm_H) (A : Nat → List Value → lm_M lm_R) (B : lm_F → lm_M lm_R) (x0 : Nat) (x1 : Int32) (x2 : Int32) : lm_M lm_R :=
  B (83, [(0, .ref x0), (1, .int x1)], [.int x2])
set_option maxRecDepth 100000 in
theorem lm_e20_75 {sc : lm_H} {d : Nat} {x0 : Nat} {x1 : Int32} {x2 : Int32} {σ : lm_S} {r : Except Nat lm_R × lm_S} (h : lm_q20_75 sc (lm_cal sc d) (lm_rn sc d lm_m20.2.2.2.2.1 (lm_reg lm_m20.2.2.2.2.2)) x0 x1 x2  σ = some r) : lm_rn sc d lm_m20.2.2.2.2.1 (lm_reg lm_m20.2.2.2.2.2) (75, [(0, .ref x0), (1, .int x1), (2, .int x2)], []) σ = some r := lm_rn_of h
/-- LatticeSuiteModel.digest, from 79 on -/
noncomputable def lm_q20_79 (sc : lm_H) (A : Nat → List Value → lm_M lm_R) (B : lm_F → lm_M lm_R) (x0 : Nat) (x1 : Int32) : lm_M lm_R :=
  lm_bind (lm_asI (A 60 [.int x1])) fun v1 =>
  B (83, [(0, .ref x0), (1, .int x1)], [.int v1])
set_option maxRecDepth 100000 in
theorem lm_e20_79 {sc : lm_H} {d : Nat} {x0 : Nat} {x1 : Int32} {σ : lm_S} {r : Except Nat lm_R × lm_S} (h : lm_q20_79 sc (lm_cal sc d) (lm_rn sc d lm_m20.2.2.2.2.1 (lm_reg lm_m20.2.2.2.2.2)) x0 x1  σ = some r) : lm_rn sc d lm_m20.2.2.2.2.1 (lm_reg lm_m20.2.2.2.2.2) (79, [(0, .ref x0), (1, .int x1)], []) σ = some r := lm_rn_of h
/-- LatticeSuiteModel.digest, from 83 on -/
noncomputable def lm_q20_83 (sc : lm_H) (A : Nat → List Value → lm_M lm_R) (B : lm_F → lm_M lm_R) (x0 : Nat) (x1 : Int32) (s0 : Int32) : lm_M lm_R :=
  lm_if .ge x1 (Int32.ofInt 13) (lm_if .ge x1 (Int32.ofInt 15) (lm_if .ne x1 (Int32.ofInt 15) (B (213, [(0, .ref x0), (3, .int s0)], [.int (Int32.ofInt 3), .ref x0])) (B (213, [(0, .ref x0), (3, .int s0)], [.int (Int32.ofInt 1), .ref x0]))) (lm_if .ne x1 (Int32.ofInt 13) (B (145, [(0, .ref x0), (3, .int s0)], [.int (Int32.ofInt 3)])) (B (145, [(0, .ref x0), (3, .int s0)], [.int (Int32.ofInt 1)])))) (lm_bind (lm_sel [(11, 61)] (some (.ref x0))) fun y1 =>
  lm_bind (lm_asV (A y1 [.ref x0, .int x1])) fun _ =>
  lm_bind (lm_gR 4406 x0) fun v2 =>
  lm_bind (lm_aaR sc v2 (Int32.ofInt 3)) fun v3 =>
  lm_bind (lm_gR 4410 x0) fun v4 =>
  lm_bind (lm_iald sc v4 (Int32.ofInt 3)) fun v5 =>
  lm_bind (lm_sel [(11, 62)] (some (.ref x0))) fun y6 =>
  lm_bind (lm_asV (A y6 [.ref x0, .ref v3, .int (Int32.ofInt 0), .int v5])) fun _ =>
  lm_bind (lm_gR 4406 x0) fun v7 =>
  lm_bind (lm_aaR sc v7 (Int32.ofInt 6)) fun v8 =>
  lm_bind (lm_sel [(11, 63)] (some (.ref x0))) fun y9 =>
  lm_bind (lm_asV (A y9 [.ref x0, .ref v8, .int (Int32.ofInt 0), .int s0])) fun _ =>
  B (237, [(0, .ref x0), (3, .int s0)], []))
set_option maxRecDepth 100000 in
theorem lm_e20_83 {sc : lm_H} {d : Nat} {x0 : Nat} {x1 : Int32} {s0 : Int32} {σ : lm_S} {r : Except Nat lm_R × lm_S} (h : lm_q20_83 sc (lm_cal sc d) (lm_rn sc d lm_m20.2.2.2.2.1 (lm_reg lm_m20.2.2.2.2.2)) x0 x1 s0 σ = some r) : lm_rn sc d lm_m20.2.2.2.2.1 (lm_reg lm_m20.2.2.2.2.2) (83, [(0, .ref x0), (1, .int x1)], [.int s0]) σ = some r := lm_rn_of h
/-- LatticeSuiteModel.digest, from 213 on -/
noncomputable def lm_q20_213 (sc : lm_H) (A : Nat → List Value → lm_M lm_R) (B : lm_F → lm_M lm_R) (x0 : Nat) (x3 : Int32) (s0 : Int32) (s1 : Nat) : lm_M lm_R :=
  lm_bind (lm_gR 4406 x0) fun v1 =>
  lm_bind (lm_aaR sc v1 (Int32.ofInt 3)) fun v2 =>
  lm_bind (lm_gR 4410 x0) fun v3 =>
  lm_bind (lm_iald sc v3 (Int32.ofInt 3)) fun v4 =>
  lm_bind (lm_gR 4406 x0) fun v5 =>
  lm_bind (lm_aaR sc v5 (Int32.ofInt 6)) fun v6 =>
  lm_bind (lm_sel [(11, 66)] (some (.ref s1))) fun y7 =>
  lm_bind (lm_asV (A y7 [.ref s1, .int s0, .ref v2, .int v4, .ref v6, .int (Int32.ofInt 0), .int x3])) fun _ =>
  B (237, [(0, .ref x0), (3, .int x3)], [])
set_option maxRecDepth 100000 in
theorem lm_e20_213 {sc : lm_H} {d : Nat} {x0 : Nat} {x3 : Int32} {s0 : Int32} {s1 : Nat} {σ : lm_S} {r : Except Nat lm_R × lm_S} (h : lm_q20_213 sc (lm_cal sc d) (lm_rn sc d lm_m20.2.2.2.2.1 (lm_reg lm_m20.2.2.2.2.2)) x0 x3 s0 s1 σ = some r) : lm_rn sc d lm_m20.2.2.2.2.1 (lm_reg lm_m20.2.2.2.2.2) (213, [(0, .ref x0), (3, .int x3)], [.int s0, .ref s1]) σ = some r := lm_rn_of h
/-- LatticeSuiteModel.digest, from 145 on -/
noncomputable def lm_q20_145 (sc : lm_H) (A : Nat → List Value → lm_M lm_R) (B : lm_F → lm_M lm_R) (x0 : Nat) (x3 : Int32) (s0 : Int32) : lm_M lm_R :=
  lm_bind (lm_gR 4406 x0) fun v1 =>
  lm_bind (lm_aaR sc v1 (Int32.ofInt 0)) fun v2 =>
  lm_bind (lm_gR 4410 x0) fun v3 =>
  lm_bind (lm_iald sc v3 (Int32.ofInt 0)) fun v4 =>
  lm_bind (lm_sel [(11, 64)] (some (.ref x0))) fun y5 =>
  lm_bind (lm_asV (A y5 [.ref x0, .int s0, .ref v2, .int (Int32.ofInt 0), .int v4])) fun _ =>
  lm_bind (lm_gR 4406 x0) fun v6 =>
  lm_bind (lm_aaR sc v6 (Int32.ofInt 3)) fun v7 =>
  lm_bind (lm_gR 4410 x0) fun v8 =>
  lm_bind (lm_iald sc v8 (Int32.ofInt 3)) fun v9 =>
  lm_bind (lm_sel [(11, 62)] (some (.ref x0))) fun y10 =>
  lm_bind (lm_asV (A y10 [.ref x0, .ref v7, .int (Int32.ofInt 0), .int v9])) fun _ =>
  lm_bind (lm_gR 4406 x0) fun v11 =>
  lm_bind (lm_aaR sc v11 (Int32.ofInt 6)) fun v12 =>
  lm_bind (lm_sel [(11, 65)] (some (.ref x0))) fun y13 =>
  lm_bind (lm_asV (A y13 [.ref x0, .int s0, .ref v12, .int (Int32.ofInt 0), .int x3])) fun _ =>
  B (237, [(0, .ref x0), (3, .int x3)], [])
set_option maxRecDepth 100000 in
theorem lm_e20_145 {sc : lm_H} {d : Nat} {x0 : Nat} {x3 : Int32} {s0 : Int32} {σ : lm_S} {r : Except Nat lm_R × lm_S} (h : lm_q20_145 sc (lm_cal sc d) (lm_rn sc d lm_m20.2.2.2.2.1 (lm_reg lm_m20.2.2.2.2.2)) x0 x3 s0 σ = some r) : lm_rn sc d lm_m20.2.2.2.2.1 (lm_reg lm_m20.2.2.2.2.2) (145, [(0, .ref x0), (3, .int x3)], [.int s0]) σ = some r := lm_rn_of h
/-- LatticeSuiteModel.digest, from 237 on -/
noncomputable def lm_q20_237 (sc : lm_H) (A : Nat → List Value → lm_M lm_R) (B : lm_F → lm_M lm_R) (x0 : Nat) (x3 : Int32) : lm_M lm_R :=
  lm_bind (lm_gR 4410 x0) fun v1 =>
  lm_bind (lm_iast v1 (Int32.ofInt 6) x3) fun _ =>
  lm_ret (some (.int x3))
set_option maxRecDepth 100000 in
theorem lm_e20_237 {sc : lm_H} {d : Nat} {x0 : Nat} {x3 : Int32} {σ : lm_S} {r : Except Nat lm_R × lm_S} (h : lm_q20_237 sc (lm_cal sc d) (lm_rn sc d lm_m20.2.2.2.2.1 (lm_reg lm_m20.2.2.2.2.2)) x0 x3  σ = some r) : lm_rn sc d lm_m20.2.2.2.2.1 (lm_reg lm_m20.2.2.2.2.2) (237, [(0, .ref x0), (3, .int x3)], []) σ = some r := lm_rn_of h
/-- LatticeSuiteLaw.kemKeys, from 0 on -/
noncomputable def lm_q21_0 (sc : lm_H) (A : Nat → List Value → lm_M lm_R) (B : lm_F → lm_M lm_R) (x0 : Nat) (x1 : Int32) (x2 : Nat) : lm_M lm_R :=
  lm_bind (lm_sel [(0, 67)] (some (.ref x0))) fun y1 =>
  lm_try (lm_asI (A y1 [.ref x0, .int x1])) [(13, 12), (14, 15), (15, 18)] (fun v2 =>
  lm_bind (lm_last x2 (Int32.ofInt 0) (Int32.toInt64 v2)) fun _ =>
  lm_ret (some (.int (Int32.ofInt 0)))) (fun h q => B (h, [], [.ref q]))
set_option maxRecDepth 100000 in
theorem lm_e21_0 {sc : lm_H} {d : Nat} {x0 : Nat} {x1 : Int32} {x2 : Nat} {σ : lm_S} {r : Except Nat lm_R × lm_S} (h : lm_q21_0 sc (lm_cal sc d) (lm_rn sc d lm_m21.2.2.2.2.1 (lm_reg lm_m21.2.2.2.2.2)) x0 x1 x2  σ = some r) : lm_rn sc d lm_m21.2.2.2.2.1 (lm_reg lm_m21.2.2.2.2.2) (0, [(0, .ref x0), (1, .int x1), (2, .ref x2)], []) σ = some r := lm_rn_of h
/-- LatticeSuiteLaw.kemKeys, from 12 on -/
noncomputable def lm_q21_12 (sc : lm_H) (A : Nat → List Value → lm_M lm_R) (B : lm_F → lm_M lm_R)  (s0 : Nat) : lm_M lm_R :=
  lm_ret (some (.int (Int32.ofInt 1)))
set_option maxRecDepth 100000 in
theorem lm_e21_12 {sc : lm_H} {d : Nat}  {s0 : Nat} {σ : lm_S} {r : Except Nat lm_R × lm_S} (h : lm_q21_12 sc (lm_cal sc d) (lm_rn sc d lm_m21.2.2.2.2.1 (lm_reg lm_m21.2.2.2.2.2))  s0 σ = some r) : lm_rn sc d lm_m21.2.2.2.2.1 (lm_reg lm_m21.2.2.2.2.2) (12, [], [.ref s0]) σ = some r := lm_rn_of h
/-- LatticeSuiteLaw.kemKeys, from 15 on -/
noncomputable def lm_q21_15 (sc : lm_H) (A : Nat → List Value → lm_M lm_R) (B : lm_F → lm_M lm_R)  (s0 : Nat) : lm_M lm_R :=
  lm_ret (some (.int (Int32.ofInt 2)))
set_option maxRecDepth 100000 in
theorem lm_e21_15 {sc : lm_H} {d : Nat}  {s0 : Nat} {σ : lm_S} {r : Except Nat lm_R × lm_S} (h : lm_q21_15 sc (lm_cal sc d) (lm_rn sc d lm_m21.2.2.2.2.1 (lm_reg lm_m21.2.2.2.2.2))  s0 σ = some r) : lm_rn sc d lm_m21.2.2.2.2.1 (lm_reg lm_m21.2.2.2.2.2) (15, [], [.ref s0]) σ = some r := lm_rn_of h
/-- LatticeSuiteLaw.kemKeys, from 18 on -/
noncomputable def lm_q21_18 (sc : lm_H) (A : Nat → List Value → lm_M lm_R) (B : lm_F → lm_M lm_R)  (s0 : Nat) : lm_M lm_R :=
  lm_ret (some (.int (Int32.ofInt 3)))
set_option maxRecDepth 100000 in
theorem lm_e21_18 {sc : lm_H} {d : Nat}  {s0 : Nat} {σ : lm_S} {r : Except Nat lm_R × lm_S} (h : lm_q21_18 sc (lm_cal sc d) (lm_rn sc d lm_m21.2.2.2.2.1 (lm_reg lm_m21.2.2.2.2.2))  s0 σ = some r) : lm_rn sc d lm_m21.2.2.2.2.1 (lm_reg lm_m21.2.2.2.2.2) (18, [], [.ref s0]) σ = some r := lm_rn_of h
/-- LatticeSuiteModel.kemKeys, from 0 on -/
noncomputable def lm_q22_0 (sc : lm_H) (A : Nat → List Value → lm_M lm_R) (B : lm_F → lm_M lm_R) (x0 : Nat) (x1 : Int32) : lm_M lm_R :=
  lm_bind (lm_asI (A 52 [.int x1, .int (Int32.ofInt 0), .int (Int32.ofInt 2)])) fun v1 =>
  lm_bind (lm_sel [(11, 49)] (some (.ref x0))) fun y2 =>
  lm_bind (lm_asI (A y2 [.ref x0, .int v1, .int (Int32.ofInt 1)])) fun v3 =>
  lm_if .eq v3 0 (lm_ret (some (.int (Int32.ofInt 0)))) (lm_bind (lm_gR 4410 x0) fun v4 =>
  lm_bind (lm_iald sc v4 (Int32.ofInt 0)) fun v5 =>
  lm_if .ne v5 (Int32.ofInt 64) (B (31, [(0, .ref x0), (1, .int x1)], [.int (Int32.ofInt 0), .ref x0])) (B (31, [(0, .ref x0), (1, .int x1)], [.int (Int32.ofInt 1), .ref x0])))
set_option maxRecDepth 100000 in
theorem lm_e22_0 {sc : lm_H} {d : Nat} {x0 : Nat} {x1 : Int32} {σ : lm_S} {r : Except Nat lm_R × lm_S} (h : lm_q22_0 sc (lm_cal sc d) (lm_rn sc d lm_m22.2.2.2.2.1 (lm_reg lm_m22.2.2.2.2.2)) x0 x1  σ = some r) : lm_rn sc d lm_m22.2.2.2.2.1 (lm_reg lm_m22.2.2.2.2.2) (0, [(0, .ref x0), (1, .int x1)], []) σ = some r := lm_rn_of h
/-- LatticeSuiteModel.kemKeys, from 31 on -/
noncomputable def lm_q22_31 (sc : lm_H) (A : Nat → List Value → lm_M lm_R) (B : lm_F → lm_M lm_R) (x0 : Nat) (x1 : Int32) (s0 : Int32) (s1 : Nat) : lm_M lm_R :=
  lm_bind (lm_sel [(11, 49)] (some (.ref s1))) fun y1 =>
  lm_bind (lm_asI (A y1 [.ref s1, .int s0, .int (Int32.ofInt 2)])) fun v2 =>
  lm_if .ne v2 0 (lm_bind (lm_sel [(11, 68)] (some (.ref x0))) fun y3 =>
  lm_bind (lm_asV (A y3 [.ref x0, .int x1])) fun _ =>
  lm_bind (lm_sel [(11, 61)] (some (.ref x0))) fun y4 =>
  lm_bind (lm_asV (A y4 [.ref x0, .int (Int32.ofInt 10)])) fun _ =>
  lm_bind (lm_gR 4406 x0) fun v5 =>
  lm_bind (lm_aaR sc v5 (Int32.ofInt 0)) fun v6 =>
  lm_bind (lm_sel [(11, 62)] (some (.ref x0))) fun y7 =>
  lm_bind (lm_asV (A y7 [.ref x0, .ref v6, .int (Int32.ofInt 0), .int (Int32.ofInt 32)])) fun _ =>
  lm_bind (lm_gI 4528 x0) fun v8 =>
  lm_bind (lm_sel [(11, 69)] (some (.ref x0))) fun y9 =>
  lm_bind (lm_asV (A y9 [.ref x0, .int v8])) fun _ =>
  lm_bind (lm_gR 4514 x0) fun v10 =>
  lm_bind (lm_sel [(11, 63)] (some (.ref x0))) fun y11 =>
  lm_bind (lm_asV (A y11 [.ref x0, .ref v10, .int (Int32.ofInt 0), .int (Int32.ofInt 64)])) fun _ =>
  B (85, [(0, .ref x0), (2, .int (Int32.ofInt 0))], [])) (lm_ret (some (.int (Int32.ofInt 0))))
set_option maxRecDepth 100000 in
theorem lm_e22_31 {sc : lm_H} {d : Nat} {x0 : Nat} {x1 : Int32} {s0 : Int32} {s1 : Nat} {σ : lm_S} {r : Except Nat lm_R × lm_S} (h : lm_q22_31 sc (lm_cal sc d) (lm_rn sc d lm_m22.2.2.2.2.1 (lm_reg lm_m22.2.2.2.2.2)) x0 x1 s0 s1 σ = some r) : lm_rn sc d lm_m22.2.2.2.2.1 (lm_reg lm_m22.2.2.2.2.2) (31, [(0, .ref x0), (1, .int x1)], [.int s0, .ref s1]) σ = some r := lm_rn_of h
/-- LatticeSuiteModel.kemKeys, from 85 on -/
noncomputable def lm_q22_85 (sc : lm_H) (A : Nat → List Value → lm_M lm_R) (B : lm_F → lm_M lm_R) (x0 : Nat) (x2 : Int32) : lm_M lm_R :=
  lm_bind (lm_gI 4528 x0) fun v1 =>
  lm_if .ge x2 v1 (lm_bind (lm_putf 4496 x0 (.int (Int32.ofInt 0))) fun _ =>
  B (137, [(0, .ref x0), (2, .int (Int32.ofInt 0))], [])) (lm_bind (lm_gR 4510 x0) fun v2 =>
  lm_bind (lm_aaR sc v2 x2) fun v3 =>
  lm_bind (lm_gI 4532 x0) fun v4 =>
  lm_bind (lm_gR 4514 x0) fun v5 =>
  lm_bind (lm_sel [(11, 70)] (some (.ref x0))) fun y6 =>
  lm_bind (lm_asV (A y6 [.ref x0, .ref v3, .int v4, .ref v5, .int (Int32.ofInt 32), .int x2])) fun _ =>
  lm_bind (lm_gR 4510 x0) fun v7 =>
  lm_bind (lm_aaR sc v7 x2) fun v8 =>
  lm_bind (lm_sel [(11, 71)] (some (.ref x0))) fun y9 =>
  lm_bind (lm_asV (A y9 [.ref x0, .ref v8])) fun _ =>
  B (85, [(0, .ref x0), (2, .int (x2 + Int32.ofInt 1))], []))
set_option maxRecDepth 100000 in
theorem lm_e22_85 {sc : lm_H} {d : Nat} {x0 : Nat} {x2 : Int32} {σ : lm_S} {r : Except Nat lm_R × lm_S} (h : lm_q22_85 sc (lm_cal sc d) (lm_rn sc d lm_m22.2.2.2.2.1 (lm_reg lm_m22.2.2.2.2.2)) x0 x2  σ = some r) : lm_rn sc d lm_m22.2.2.2.2.1 (lm_reg lm_m22.2.2.2.2.2) (85, [(0, .ref x0), (2, .int x2)], []) σ = some r := lm_rn_of h
/-- LatticeSuiteModel.kemKeys, from 137 on -/
noncomputable def lm_q22_137 (sc : lm_H) (A : Nat → List Value → lm_M lm_R) (B : lm_F → lm_M lm_R) (x0 : Nat) (x2 : Int32) : lm_M lm_R :=
  lm_bind (lm_gI 4528 x0) fun v1 =>
  lm_if .ge x2 v1 (lm_bind (lm_gR 4514 x0) fun v2 =>
  lm_bind (lm_gR 4522 x0) fun v3 =>
  lm_bind (lm_gI 4528 x0) fun v4 =>
  lm_bind (lm_asV (A 75 [.ref v2, .int (Int32.ofInt 0), .ref v3, .int ((Int32.ofInt 384) * v4), .int (Int32.ofInt 32)])) fun _ =>
  lm_bind (lm_gI 4528 x0) fun v5 =>
  lm_bind (lm_gR 4522 x0) fun v6 =>
  lm_bind (lm_gR 4406 x0) fun v7 =>
  lm_bind (lm_aaR sc v7 (Int32.ofInt 1)) fun v8 =>
  lm_bind (lm_asV (A 75 [.ref v6, .int (Int32.ofInt 0), .ref v8, .int (Int32.ofInt 0), .int (((Int32.ofInt 384) * v5) + (Int32.ofInt 32))])) fun _ =>
  lm_bind (lm_gR 4410 x0) fun v9 =>
  lm_bind (lm_iast v9 (Int32.ofInt 1) (((Int32.ofInt 384) * v5) + (Int32.ofInt 32))) fun _ =>
  lm_bind (lm_putf 4496 x0 (.int (Int32.ofInt 0))) fun _ =>
  B (356, [(0, .ref x0), (2, .int (((Int32.ofInt 384) * v5) + (Int32.ofInt 32))), (3, .int (Int32.ofInt 0))], [])) (lm_bind (lm_gR 4510 x0) fun v10 =>
  lm_bind (lm_aaR sc v10 (Int32.ofInt 10)) fun v11 =>
  lm_bind (lm_gI 4532 x0) fun v12 =>
  lm_bind (lm_gR 4514 x0) fun v13 =>
  lm_bind (lm_gI 4528 x0) fun v14 =>
  lm_bind (lm_sel [(11, 70)] (some (.ref x0))) fun y15 =>
  lm_bind (lm_asV (A y15 [.ref x0, .ref v11, .int v12, .ref v13, .int (Int32.ofInt 32), .int (v14 + x2)])) fun _ =>
  lm_bind (lm_gR 4510 x0) fun v16 =>
  lm_bind (lm_aaR sc v16 (Int32.ofInt 10)) fun v17 =>
  lm_bind (lm_sel [(11, 71)] (some (.ref x0))) fun y18 =>
  lm_bind (lm_asV (A y18 [.ref x0, .ref v17])) fun _ =>
  B (185, [(0, .ref x0), (2, .int x2), (3, .int (Int32.ofInt 0))], []))
set_option maxRecDepth 100000 in
theorem lm_e22_137 {sc : lm_H} {d : Nat} {x0 : Nat} {x2 : Int32} {σ : lm_S} {r : Except Nat lm_R × lm_S} (h : lm_q22_137 sc (lm_cal sc d) (lm_rn sc d lm_m22.2.2.2.2.1 (lm_reg lm_m22.2.2.2.2.2)) x0 x2  σ = some r) : lm_rn sc d lm_m22.2.2.2.2.1 (lm_reg lm_m22.2.2.2.2.2) (137, [(0, .ref x0), (2, .int x2)], []) σ = some r := lm_rn_of h
/-- LatticeSuiteModel.kemKeys, from 356 on -/
noncomputable def lm_q22_356 (sc : lm_H) (A : Nat → List Value → lm_M lm_R) (B : lm_F → lm_M lm_R) (x0 : Nat) (x2 : Int32) (x3 : Int32) : lm_M lm_R :=
  lm_bind (lm_gI 4528 x0) fun v1 =>
  lm_if .ge x3 v1 (lm_bind (lm_gR 4522 x0) fun v2 =>
  lm_bind (lm_gR 4406 x0) fun v3 =>
  lm_bind (lm_aaR sc v3 (Int32.ofInt 2)) fun v4 =>
  lm_bind (lm_gI 4528 x0) fun v5 =>
  lm_bind (lm_asV (A 75 [.ref v2, .int (Int32.ofInt 0), .ref v4, .int ((Int32.ofInt 384) * v5), .int x2])) fun _ =>
  lm_bind (lm_sel [(11, 61)] (some (.ref x0))) fun y6 =>
  lm_bind (lm_asV (A y6 [.ref x0, .int (Int32.ofInt 8)])) fun _ =>
  lm_bind (lm_gR 4522 x0) fun v7 =>
  lm_bind (lm_sel [(11, 62)] (some (.ref x0))) fun y8 =>
  lm_bind (lm_asV (A y8 [.ref x0, .ref v7, .int (Int32.ofInt 0), .int x2])) fun _ =>
  lm_bind (lm_gR 4406 x0) fun v9 =>
  lm_bind (lm_aaR sc v9 (Int32.ofInt 2)) fun v10 =>
  lm_bind (lm_gI 4528 x0) fun v11 =>
  lm_bind (lm_sel [(11, 63)] (some (.ref x0))) fun y12 =>
  lm_bind (lm_asV (A y12 [.ref x0, .ref v10, .int (((Int32.ofInt 384) * v11) + x2), .int (Int32.ofInt 32)])) fun _ =>
  lm_bind (lm_gR 4406 x0) fun v13 =>
  lm_bind (lm_aaR sc v13 (Int32.ofInt 0)) fun v14 =>
  lm_bind (lm_gR 4406 x0) fun v15 =>
  lm_bind (lm_aaR sc v15 (Int32.ofInt 2)) fun v16 =>
  lm_bind (lm_gI 4528 x0) fun v17 =>
  lm_bind (lm_asV (A 75 [.ref v14, .int (Int32.ofInt 32), .ref v16, .int ((((Int32.ofInt 384) * v17) + x2) + (Int32.ofInt 32)), .int (Int32.ofInt 32)])) fun _ =>
  lm_bind (lm_gR 4410 x0) fun v18 =>
  lm_bind (lm_gI 4528 x0) fun v19 =>
  lm_bind (lm_iast v18 (Int32.ofInt 2) (((Int32.ofInt 768) * v19) + (Int32.ofInt 96))) fun _ =>
  lm_bind (lm_gR 4410 x0) fun v20 =>
  lm_bind (lm_iald sc v20 (Int32.ofInt 2)) fun v21 =>
  lm_ret (some (.int v21))) (B (367, [(0, .ref x0), (2, .int x2), (3, .int x3), (4, .int (Int32.ofInt 0))], []))
set_option maxRecDepth 100000 in
theorem lm_e22_356 {sc : lm_H} {d : Nat} {x0 : Nat} {x2 : Int32} {x3 : Int32} {σ : lm_S} {r : Except Nat lm_R × lm_S} (h : lm_q22_356 sc (lm_cal sc d) (lm_rn sc d lm_m22.2.2.2.2.1 (lm_reg lm_m22.2.2.2.2.2)) x0 x2 x3  σ = some r) : lm_rn sc d lm_m22.2.2.2.2.1 (lm_reg lm_m22.2.2.2.2.2) (356, [(0, .ref x0), (2, .int x2), (3, .int x3)], []) σ = some r := lm_rn_of h
/-- LatticeSuiteModel.kemKeys, from 185 on -/
noncomputable def lm_q22_185 (sc : lm_H) (A : Nat → List Value → lm_M lm_R) (B : lm_F → lm_M lm_R) (x0 : Nat) (x2 : Int32) (x3 : Int32) : lm_M lm_R :=
  lm_bind (lm_gI 4528 x0) fun v1 =>
  lm_if .ge x3 v1 (B (253, [(0, .ref x0), (2, .int x2), (3, .int (Int32.ofInt 0))], [])) (lm_bind (lm_gR 4510 x0) fun v2 =>
  lm_bind (lm_aaR sc v2 (Int32.ofInt 11)) fun v3 =>
  lm_bind (lm_gR 4514 x0) fun v4 =>
  lm_bind (lm_sel [(11, 72)] (some (.ref x0))) fun y5 =>
  lm_bind (lm_asI (A y5 [.ref x0, .ref v3, .ref v4, .int (Int32.ofInt 0), .int x3, .int x2])) fun v6 =>
  lm_bind (lm_sel [(11, 49)] (some (.ref x0))) fun y7 =>
  lm_bind (lm_asI (A y7 [.ref x0, .int v6, .int (Int32.ofInt 3)])) fun v8 =>
  lm_if .ne v8 0 (lm_bind (lm_gR 4510 x0) fun v9 =>
  lm_bind (lm_aaR sc v9 (Int32.ofInt 10)) fun v10 =>
  lm_bind (lm_gR 4510 x0) fun v11 =>
  lm_bind (lm_aaR sc v11 (Int32.ofInt 11)) fun v12 =>
  lm_bind (lm_gR 4510 x0) fun v13 =>
  lm_bind (lm_aaR sc v13 x3) fun v14 =>
  lm_bind (lm_sel [(11, 73)] (some (.ref x0))) fun y15 =>
  lm_bind (lm_asV (A y15 [.ref x0, .ref v10, .ref v12, .ref v14])) fun _ =>
  B (185, [(0, .ref x0), (2, .int x2), (3, .int (x3 + Int32.ofInt 1))], [])) (lm_ret (some (.int (Int32.ofInt 0)))))
set_option maxRecDepth 100000 in
theorem lm_e22_185 {sc : lm_H} {d : Nat} {x0 : Nat} {x2 : Int32} {x3 : Int32} {σ : lm_S} {r : Except Nat lm_R × lm_S} (h : lm_q22_185 sc (lm_cal sc d) (lm_rn sc d lm_m22.2.2.2.2.1 (lm_reg lm_m22.2.2.2.2.2)) x0 x2 x3  σ = some r) : lm_rn sc d lm_m22.2.2.2.2.1 (lm_reg lm_m22.2.2.2.2.2) (185, [(0, .ref x0), (2, .int x2), (3, .int x3)], []) σ = some r := lm_rn_of h
/-- LatticeSuiteModel.kemKeys, from 367 on -/
noncomputable def lm_q22_367 (sc : lm_H) (A : Nat → List Value → lm_M lm_R) (B : lm_F → lm_M lm_R) (x0 : Nat) (x2 : Int32) (x3 : Int32) (x4 : Int32) : lm_M lm_R :=
  lm_if .ge x4 (Int32.ofInt 256) (B (356, [(0, .ref x0), (2, .int x2), (3, .int (x3 + Int32.ofInt 1))], [])) (lm_bind (lm_gR 4406 x0) fun v1 =>
  lm_bind (lm_aaR sc v1 (Int32.ofInt 2)) fun v2 =>
  lm_bind (lm_gR 4510 x0) fun v3 =>
  lm_bind (lm_aaR sc v3 x3) fun v4 =>
  lm_bind (lm_iald sc v4 x4) fun v5 =>
  lm_bind (lm_sel [(11, 74)] (some (.ref x0))) fun y6 =>
  lm_bind (lm_asV (A y6 [.ref x0, .ref v2, .int (Int32.ofInt 0), .int v5, .int (Int32.ofInt 12)])) fun _ =>
  B (367, [(0, .ref x0), (2, .int x2), (3, .int x3), (4, .int (x4 + Int32.ofInt 1))], []))
set_option maxRecDepth 100000 in
theorem lm_e22_367 {sc : lm_H} {d : Nat} {x0 : Nat} {x2 : Int32} {x3 : Int32} {x4 : Int32} {σ : lm_S} {r : Except Nat lm_R × lm_S} (h : lm_q22_367 sc (lm_cal sc d) (lm_rn sc d lm_m22.2.2.2.2.1 (lm_reg lm_m22.2.2.2.2.2)) x0 x2 x3 x4  σ = some r) : lm_rn sc d lm_m22.2.2.2.2.1 (lm_reg lm_m22.2.2.2.2.2) (367, [(0, .ref x0), (2, .int x2), (3, .int x3), (4, .int x4)], []) σ = some r := lm_rn_of h
/-- LatticeSuiteModel.kemKeys, from 253 on -/
noncomputable def lm_q22_253 (sc : lm_H) (A : Nat → List Value → lm_M lm_R) (B : lm_F → lm_M lm_R) (x0 : Nat) (x2 : Int32) (x3 : Int32) : lm_M lm_R :=
  lm_if .ge x3 (Int32.ofInt 256) (B (137, [(0, .ref x0), (2, .int (x2 + Int32.ofInt 1))], [])) (lm_bind (lm_gR 4522 x0) fun v1 =>
  lm_bind (lm_gR 4510 x0) fun v2 =>
  lm_bind (lm_aaR sc v2 (Int32.ofInt 10)) fun v3 =>
  lm_bind (lm_iald sc v3 x3) fun v4 =>
  lm_bind (lm_sel [(11, 74)] (some (.ref x0))) fun y5 =>
  lm_bind (lm_asV (A y5 [.ref x0, .ref v1, .int (Int32.ofInt 0), .int v4, .int (Int32.ofInt 12)])) fun _ =>
  B (253, [(0, .ref x0), (2, .int x2), (3, .int (x3 + Int32.ofInt 1))], []))
set_option maxRecDepth 100000 in
theorem lm_e22_253 {sc : lm_H} {d : Nat} {x0 : Nat} {x2 : Int32} {x3 : Int32} {σ : lm_S} {r : Except Nat lm_R × lm_S} (h : lm_q22_253 sc (lm_cal sc d) (lm_rn sc d lm_m22.2.2.2.2.1 (lm_reg lm_m22.2.2.2.2.2)) x0 x2 x3  σ = some r) : lm_rn sc d lm_m22.2.2.2.2.1 (lm_reg lm_m22.2.2.2.2.2) (253, [(0, .ref x0), (2, .int x2), (3, .int x3)], []) σ = some r := lm_rn_of h
/-- LatticeSuiteLaw.kemWrap, from 0 on -/
noncomputable def lm_q23_0 (sc : lm_H) (A : Nat → List Value → lm_M lm_R) (B : lm_F → lm_M lm_R) (x0 : Nat) (x1 : Int32) (x2 : Nat) : lm_M lm_R :=
  lm_bind (lm_sel [(0, 76)] (some (.ref x0))) fun y1 =>
  lm_try (lm_asI (A y1 [.ref x0, .int x1])) [(13, 12), (14, 15), (16, 18), (15, 21)] (fun v2 =>
  lm_bind (lm_last x2 (Int32.ofInt 0) (Int32.toInt64 v2)) fun _ =>
  lm_ret (some (.int (Int32.ofInt 0)))) (fun h q => B (h, [], [.ref q]))
set_option maxRecDepth 100000 in
theorem lm_e23_0 {sc : lm_H} {d : Nat} {x0 : Nat} {x1 : Int32} {x2 : Nat} {σ : lm_S} {r : Except Nat lm_R × lm_S} (h : lm_q23_0 sc (lm_cal sc d) (lm_rn sc d lm_m23.2.2.2.2.1 (lm_reg lm_m23.2.2.2.2.2)) x0 x1 x2  σ = some r) : lm_rn sc d lm_m23.2.2.2.2.1 (lm_reg lm_m23.2.2.2.2.2) (0, [(0, .ref x0), (1, .int x1), (2, .ref x2)], []) σ = some r := lm_rn_of h
/-- LatticeSuiteLaw.kemWrap, from 12 on -/
noncomputable def lm_q23_12 (sc : lm_H) (A : Nat → List Value → lm_M lm_R) (B : lm_F → lm_M lm_R)  (s0 : Nat) : lm_M lm_R :=
  lm_ret (some (.int (Int32.ofInt 1)))
set_option maxRecDepth 100000 in
theorem lm_e23_12 {sc : lm_H} {d : Nat}  {s0 : Nat} {σ : lm_S} {r : Except Nat lm_R × lm_S} (h : lm_q23_12 sc (lm_cal sc d) (lm_rn sc d lm_m23.2.2.2.2.1 (lm_reg lm_m23.2.2.2.2.2))  s0 σ = some r) : lm_rn sc d lm_m23.2.2.2.2.1 (lm_reg lm_m23.2.2.2.2.2) (12, [], [.ref s0]) σ = some r := lm_rn_of h
/-- LatticeSuiteLaw.kemWrap, from 15 on -/
noncomputable def lm_q23_15 (sc : lm_H) (A : Nat → List Value → lm_M lm_R) (B : lm_F → lm_M lm_R)  (s0 : Nat) : lm_M lm_R :=
  lm_ret (some (.int (Int32.ofInt 2)))
set_option maxRecDepth 100000 in
theorem lm_e23_15 {sc : lm_H} {d : Nat}  {s0 : Nat} {σ : lm_S} {r : Except Nat lm_R × lm_S} (h : lm_q23_15 sc (lm_cal sc d) (lm_rn sc d lm_m23.2.2.2.2.1 (lm_reg lm_m23.2.2.2.2.2))  s0 σ = some r) : lm_rn sc d lm_m23.2.2.2.2.1 (lm_reg lm_m23.2.2.2.2.2) (15, [], [.ref s0]) σ = some r := lm_rn_of h
/-- LatticeSuiteLaw.kemWrap, from 18 on -/
noncomputable def lm_q23_18 (sc : lm_H) (A : Nat → List Value → lm_M lm_R) (B : lm_F → lm_M lm_R)  (s0 : Nat) : lm_M lm_R :=
  lm_ret (some (.int (Int32.ofInt 3)))
set_option maxRecDepth 100000 in
theorem lm_e23_18 {sc : lm_H} {d : Nat}  {s0 : Nat} {σ : lm_S} {r : Except Nat lm_R × lm_S} (h : lm_q23_18 sc (lm_cal sc d) (lm_rn sc d lm_m23.2.2.2.2.1 (lm_reg lm_m23.2.2.2.2.2))  s0 σ = some r) : lm_rn sc d lm_m23.2.2.2.2.1 (lm_reg lm_m23.2.2.2.2.2) (18, [], [.ref s0]) σ = some r := lm_rn_of h
/-- LatticeSuiteLaw.kemWrap, from 21 on -/
noncomputable def lm_q23_21 (sc : lm_H) (A : Nat → List Value → lm_M lm_R) (B : lm_F → lm_M lm_R)  (s0 : Nat) : lm_M lm_R :=
  lm_ret (some (.int (Int32.ofInt 4)))
set_option maxRecDepth 100000 in
theorem lm_e23_21 {sc : lm_H} {d : Nat}  {s0 : Nat} {σ : lm_S} {r : Except Nat lm_R × lm_S} (h : lm_q23_21 sc (lm_cal sc d) (lm_rn sc d lm_m23.2.2.2.2.1 (lm_reg lm_m23.2.2.2.2.2))  s0 σ = some r) : lm_rn sc d lm_m23.2.2.2.2.1 (lm_reg lm_m23.2.2.2.2.2) (21, [], [.ref s0]) σ = some r := lm_rn_of h
/-- LatticeSuiteModel.kemWrap, from 0 on -/
noncomputable def lm_q24_0 (sc : lm_H) (A : Nat → List Value → lm_M lm_R) (B : lm_F → lm_M lm_R) (x0 : Nat) (x1 : Int32) : lm_M lm_R :=
  lm_bind (lm_asI (A 52 [.int x1, .int (Int32.ofInt 0), .int (Int32.ofInt 2)])) fun v1 =>
  lm_bind (lm_sel [(11, 49)] (some (.ref x0))) fun y2 =>
  lm_bind (lm_asI (A y2 [.ref x0, .int v1, .int (Int32.ofInt 1)])) fun v3 =>
  lm_if .eq v3 0 (lm_ret (some (.int (Int32.ofInt 0)))) (lm_bind (lm_gR 4410 x0) fun v4 =>
  lm_bind (lm_iald sc v4 (Int32.ofInt 0)) fun v5 =>
  lm_if .ne v5 (Int32.ofInt 32) (B (31, [(0, .ref x0), (1, .int x1)], [.int (Int32.ofInt 0), .ref x0])) (B (31, [(0, .ref x0), (1, .int x1)], [.int (Int32.ofInt 1), .ref x0])))
set_option maxRecDepth 100000 in
theorem lm_e24_0 {sc : lm_H} {d : Nat} {x0 : Nat} {x1 : Int32} {σ : lm_S} {r : Except Nat lm_R × lm_S} (h : lm_q24_0 sc (lm_cal sc d) (lm_rn sc d lm_m24.2.2.2.2.1 (lm_reg lm_m24.2.2.2.2.2)) x0 x1  σ = some r) : lm_rn sc d lm_m24.2.2.2.2.1 (lm_reg lm_m24.2.2.2.2.2) (0, [(0, .ref x0), (1, .int x1)], []) σ = some r := lm_rn_of h
/-- LatticeSuiteModel.kemWrap, from 31 on -/
noncomputable def lm_q24_31 (sc : lm_H) (A : Nat → List Value → lm_M lm_R) (B : lm_F → lm_M lm_R) (x0 : Nat) (x1 : Int32) (s0 : Int32) (s1 : Nat) : lm_M lm_R :=
  lm_bind (lm_sel [(11, 49)] (some (.ref s1))) fun y1 =>
  lm_bind (lm_asI (A y1 [.ref s1, .int s0, .int (Int32.ofInt 2)])) fun v2 =>
  lm_if .ne v2 0 (lm_bind (lm_sel [(11, 68)] (some (.ref x0))) fun y3 =>
  lm_bind (lm_asV (A y3 [.ref x0, .int x1])) fun _ =>
  lm_bind (lm_gR 4410 x0) fun v4 =>
  lm_bind (lm_iald sc v4 (Int32.ofInt 1)) fun v5 =>
  lm_bind (lm_gI 4528 x0) fun v6 =>
  lm_if .ne v5 (((Int32.ofInt 384) * v6) + (Int32.ofInt 32)) (B (70, [(0, .ref x0)], [.int (Int32.ofInt 0)])) (B (70, [(0, .ref x0)], [.int (Int32.ofInt 1)]))) (lm_ret (some (.int (Int32.ofInt 0))))
set_option maxRecDepth 100000 in
theorem lm_e24_31 {sc : lm_H} {d : Nat} {x0 : Nat} {x1 : Int32} {s0 : Int32} {s1 : Nat} {σ : lm_S} {r : Except Nat lm_R × lm_S} (h : lm_q24_31 sc (lm_cal sc d) (lm_rn sc d lm_m24.2.2.2.2.1 (lm_reg lm_m24.2.2.2.2.2)) x0 x1 s0 s1 σ = some r) : lm_rn sc d lm_m24.2.2.2.2.1 (lm_reg lm_m24.2.2.2.2.2) (31, [(0, .ref x0), (1, .int x1)], [.int s0, .ref s1]) σ = some r := lm_rn_of h
/-- LatticeSuiteModel.kemWrap, from 70 on -/
noncomputable def lm_q24_70 (sc : lm_H) (A : Nat → List Value → lm_M lm_R) (B : lm_F → lm_M lm_R) (x0 : Nat) (s0 : Int32) : lm_M lm_R :=
  lm_bind (lm_putf 4496 x0 (.int (Int32.ofInt 0))) fun _ =>
  B (78, [(0, .ref x0), (2, .int s0), (3, .int (Int32.ofInt 0))], [])
set_option maxRecDepth 100000 in
theorem lm_e24_70 {sc : lm_H} {d : Nat} {x0 : Nat} {s0 : Int32} {σ : lm_S} {r : Except Nat lm_R × lm_S} (h : lm_q24_70 sc (lm_cal sc d) (lm_rn sc d lm_m24.2.2.2.2.1 (lm_reg lm_m24.2.2.2.2.2)) x0 s0 σ = some r) : lm_rn sc d lm_m24.2.2.2.2.1 (lm_reg lm_m24.2.2.2.2.2) (70, [(0, .ref x0)], [.int s0]) σ = some r := lm_rn_of h
/-- LatticeSuiteModel.kemWrap, from 78 on -/
noncomputable def lm_q24_78 (sc : lm_H) (A : Nat → List Value → lm_M lm_R) (B : lm_F → lm_M lm_R) (x0 : Nat) (x2 : Int32) (x3 : Int32) : lm_M lm_R :=
  lm_bind (lm_gI 4528 x0) fun v1 =>
  lm_if .ge x3 ((Int32.ofInt 256) * v1) (B (121, [(0, .ref x0), (2, .int x2)], [])) (lm_if .eq x2 0 (B (121, [(0, .ref x0), (2, .int x2)], [])) (lm_bind (lm_gR 4406 x0) fun v2 =>
  lm_bind (lm_aaR sc v2 (Int32.ofInt 1)) fun v3 =>
  lm_bind (lm_sel [(11, 77)] (some (.ref x0))) fun y4 =>
  lm_bind (lm_asI (A y4 [.ref x0, .ref v3, .int (Int32.ofInt 0), .int (Int32.ofInt 12)])) fun v5 =>
  lm_if .lt v5 (Int32.ofInt 3329) (B (115, [(0, .ref x0), (2, .int x2), (3, .int x3)], [])) (B (115, [(0, .ref x0), (2, .int (Int32.ofInt 0)), (3, .int x3)], []))))
set_option maxRecDepth 100000 in
theorem lm_e24_78 {sc : lm_H} {d : Nat} {x0 : Nat} {x2 : Int32} {x3 : Int32} {σ : lm_S} {r : Except Nat lm_R × lm_S} (h : lm_q24_78 sc (lm_cal sc d) (lm_rn sc d lm_m24.2.2.2.2.1 (lm_reg lm_m24.2.2.2.2.2)) x0 x2 x3  σ = some r) : lm_rn sc d lm_m24.2.2.2.2.1 (lm_reg lm_m24.2.2.2.2.2) (78, [(0, .ref x0), (2, .int x2), (3, .int x3)], []) σ = some r := lm_rn_of h
/-- LatticeSuiteModel.kemWrap, from 121 on -/
noncomputable def lm_q24_121 (sc : lm_H) (A : Nat → List Value → lm_M lm_R) (B : lm_F → lm_M lm_R) (x0 : Nat) (x2 : Int32) : lm_M lm_R :=
  lm_bind (lm_sel [(11, 49)] (some (.ref x0))) fun y1 =>
  lm_bind (lm_asI (A y1 [.ref x0, .int x2, .int (Int32.ofInt 3)])) fun v2 =>
  lm_if .ne v2 0 (lm_bind (lm_sel [(11, 61)] (some (.ref x0))) fun y3 =>
  lm_bind (lm_asV (A y3 [.ref x0, .int (Int32.ofInt 8)])) fun _ =>
  lm_bind (lm_gR 4406 x0) fun v4 =>
  lm_bind (lm_aaR sc v4 (Int32.ofInt 1)) fun v5 =>
  lm_bind (lm_gR 4410 x0) fun v6 =>
  lm_bind (lm_iald sc v6 (Int32.ofInt 1)) fun v7 =>
  lm_bind (lm_sel [(11, 62)] (some (.ref x0))) fun y8 =>
  lm_bind (lm_asV (A y8 [.ref x0, .ref v5, .int (Int32.ofInt 0), .int v7])) fun _ =>
  lm_bind (lm_gR 4514 x0) fun v9 =>
  lm_bind (lm_sel [(11, 63)] (some (.ref x0))) fun y10 =>
  lm_bind (lm_asV (A y10 [.ref x0, .ref v9, .int (Int32.ofInt 128), .int (Int32.ofInt 32)])) fun _ =>
  lm_bind (lm_sel [(11, 61)] (some (.ref x0))) fun y11 =>
  lm_bind (lm_asV (A y11 [.ref x0, .int (Int32.ofInt 10)])) fun _ =>
  lm_bind (lm_gR 4406 x0) fun v12 =>
  lm_bind (lm_aaR sc v12 (Int32.ofInt 0)) fun v13 =>
  lm_bind (lm_sel [(11, 62)] (some (.ref x0))) fun y14 =>
  lm_bind (lm_asV (A y14 [.ref x0, .ref v13, .int (Int32.ofInt 0), .int (Int32.ofInt 32)])) fun _ =>
  lm_bind (lm_gR 4514 x0) fun v15 =>
  lm_bind (lm_sel [(11, 62)] (some (.ref x0))) fun y16 =>
  lm_bind (lm_asV (A y16 [.ref x0, .ref v15, .int (Int32.ofInt 128), .int (Int32.ofInt 32)])) fun _ =>
  lm_bind (lm_gR 4514 x0) fun v17 =>
  lm_bind (lm_sel [(11, 63)] (some (.ref x0))) fun y18 =>
  lm_bind (lm_asV (A y18 [.ref x0, .ref v17, .int (Int32.ofInt 64), .int (Int32.ofInt 64)])) fun _ =>
  lm_bind (lm_gR 4406 x0) fun v19 =>
  lm_bind (lm_aaR sc v19 (Int32.ofInt 1)) fun v20 =>
  lm_bind (lm_gR 4406 x0) fun v21 =>
  lm_bind (lm_aaR sc v21 (Int32.ofInt 0)) fun v22 =>
  lm_bind (lm_gR 4514 x0) fun v23 =>
  lm_bind (lm_sel [(11, 78)] (some (.ref x0))) fun y24 =>
  lm_bind (lm_asI (A y24 [.ref x0, .ref v20, .int (Int32.ofInt 0), .ref v22, .ref v23, .int (Int32.ofInt 96)])) fun v25 =>
  lm_bind (lm_sel [(11, 49)] (some (.ref x0))) fun y26 =>
  lm_bind (lm_asI (A y26 [.ref x0, .int v25, .int (Int32.ofInt 4)])) fun v27 =>
  lm_if .ne v27 0 (lm_bind (lm_gI 4536 x0) fun v28 =>
  lm_bind (lm_gI 4528 x0) fun v29 =>
  lm_bind (lm_gI 4540 x0) fun v30 =>
  lm_bind (lm_gR 4526 x0) fun v31 =>
  lm_bind (lm_gR 4406 x0) fun v32 =>
  lm_bind (lm_aaR sc v32 (Int32.ofInt 5)) fun v33 =>
  lm_bind (lm_asV (A 75 [.ref v31, .int (Int32.ofInt 0), .ref v33, .int (Int32.ofInt 0), .int ((Int32.ofInt 32) * ((v28 * v29) + v30))])) fun _ =>
  lm_bind (lm_gR 4410 x0) fun v34 =>
  lm_bind (lm_iast v34 (Int32.ofInt 5) ((Int32.ofInt 32) * ((v28 * v29) + v30))) fun _ =>
  lm_bind (lm_gR 4514 x0) fun v35 =>
  lm_bind (lm_gR 4406 x0) fun v36 =>
  lm_bind (lm_aaR sc v36 (Int32.ofInt 6)) fun v37 =>
  lm_bind (lm_asV (A 75 [.ref v35, .int (Int32.ofInt 64), .ref v37, .int (Int32.ofInt 0), .int (Int32.ofInt 32)])) fun _ =>
  lm_bind (lm_gR 4410 x0) fun v38 =>
  lm_bind (lm_iast v38 (Int32.ofInt 6) (Int32.ofInt 32)) fun _ =>
  lm_ret (some (.int ((Int32.ofInt 32) * ((v28 * v29) + v30))))) (lm_ret (some (.int (Int32.ofInt 0))))) (lm_ret (some (.int (Int32.ofInt 0))))
set_option maxRecDepth 100000 in
theorem lm_e24_121 {sc : lm_H} {d : Nat} {x0 : Nat} {x2 : Int32} {σ : lm_S} {r : Except Nat lm_R × lm_S} (h : lm_q24_121 sc (lm_cal sc d) (lm_rn sc d lm_m24.2.2.2.2.1 (lm_reg lm_m24.2.2.2.2.2)) x0 x2  σ = some r) : lm_rn sc d lm_m24.2.2.2.2.1 (lm_reg lm_m24.2.2.2.2.2) (121, [(0, .ref x0), (2, .int x2)], []) σ = some r := lm_rn_of h
/-- LatticeSuiteModel.kemWrap, from 115 on -/
noncomputable def lm_q24_115 (sc : lm_H) (A : Nat → List Value → lm_M lm_R) (B : lm_F → lm_M lm_R) (x0 : Nat) (x2 : Int32) (x3 : Int32) : lm_M lm_R :=
  B (78, [(0, .ref x0), (2, .int x2), (3, .int (x3 + Int32.ofInt 1))], [])
set_option maxRecDepth 100000 in
theorem lm_e24_115 {sc : lm_H} {d : Nat} {x0 : Nat} {x2 : Int32} {x3 : Int32} {σ : lm_S} {r : Except Nat lm_R × lm_S} (h : lm_q24_115 sc (lm_cal sc d) (lm_rn sc d lm_m24.2.2.2.2.1 (lm_reg lm_m24.2.2.2.2.2)) x0 x2 x3  σ = some r) : lm_rn sc d lm_m24.2.2.2.2.1 (lm_reg lm_m24.2.2.2.2.2) (115, [(0, .ref x0), (2, .int x2), (3, .int x3)], []) σ = some r := lm_rn_of h
/-- LatticeSuiteLaw.kemOpen, from 0 on -/
noncomputable def lm_q25_0 (sc : lm_H) (A : Nat → List Value → lm_M lm_R) (B : lm_F → lm_M lm_R) (x0 : Nat) (x1 : Int32) (x2 : Nat) : lm_M lm_R :=
  lm_bind (lm_sel [(0, 79)] (some (.ref x0))) fun y1 =>
  lm_try (lm_asI (A y1 [.ref x0, .int x1])) [(13, 12), (16, 15), (15, 18)] (fun v2 =>
  lm_bind (lm_last x2 (Int32.ofInt 0) (Int32.toInt64 v2)) fun _ =>
  lm_ret (some (.int (Int32.ofInt 0)))) (fun h q => B (h, [], [.ref q]))
set_option maxRecDepth 100000 in
theorem lm_e25_0 {sc : lm_H} {d : Nat} {x0 : Nat} {x1 : Int32} {x2 : Nat} {σ : lm_S} {r : Except Nat lm_R × lm_S} (h : lm_q25_0 sc (lm_cal sc d) (lm_rn sc d lm_m25.2.2.2.2.1 (lm_reg lm_m25.2.2.2.2.2)) x0 x1 x2  σ = some r) : lm_rn sc d lm_m25.2.2.2.2.1 (lm_reg lm_m25.2.2.2.2.2) (0, [(0, .ref x0), (1, .int x1), (2, .ref x2)], []) σ = some r := lm_rn_of h
/-- LatticeSuiteLaw.kemOpen, from 12 on -/
noncomputable def lm_q25_12 (sc : lm_H) (A : Nat → List Value → lm_M lm_R) (B : lm_F → lm_M lm_R)  (s0 : Nat) : lm_M lm_R :=
  lm_ret (some (.int (Int32.ofInt 1)))
set_option maxRecDepth 100000 in
theorem lm_e25_12 {sc : lm_H} {d : Nat}  {s0 : Nat} {σ : lm_S} {r : Except Nat lm_R × lm_S} (h : lm_q25_12 sc (lm_cal sc d) (lm_rn sc d lm_m25.2.2.2.2.1 (lm_reg lm_m25.2.2.2.2.2))  s0 σ = some r) : lm_rn sc d lm_m25.2.2.2.2.1 (lm_reg lm_m25.2.2.2.2.2) (12, [], [.ref s0]) σ = some r := lm_rn_of h
/-- LatticeSuiteLaw.kemOpen, from 15 on -/
noncomputable def lm_q25_15 (sc : lm_H) (A : Nat → List Value → lm_M lm_R) (B : lm_F → lm_M lm_R)  (s0 : Nat) : lm_M lm_R :=
  lm_ret (some (.int (Int32.ofInt 2)))
set_option maxRecDepth 100000 in
theorem lm_e25_15 {sc : lm_H} {d : Nat}  {s0 : Nat} {σ : lm_S} {r : Except Nat lm_R × lm_S} (h : lm_q25_15 sc (lm_cal sc d) (lm_rn sc d lm_m25.2.2.2.2.1 (lm_reg lm_m25.2.2.2.2.2))  s0 σ = some r) : lm_rn sc d lm_m25.2.2.2.2.1 (lm_reg lm_m25.2.2.2.2.2) (15, [], [.ref s0]) σ = some r := lm_rn_of h
/-- LatticeSuiteLaw.kemOpen, from 18 on -/
noncomputable def lm_q25_18 (sc : lm_H) (A : Nat → List Value → lm_M lm_R) (B : lm_F → lm_M lm_R)  (s0 : Nat) : lm_M lm_R :=
  lm_ret (some (.int (Int32.ofInt 3)))
set_option maxRecDepth 100000 in
theorem lm_e25_18 {sc : lm_H} {d : Nat}  {s0 : Nat} {σ : lm_S} {r : Except Nat lm_R × lm_S} (h : lm_q25_18 sc (lm_cal sc d) (lm_rn sc d lm_m25.2.2.2.2.1 (lm_reg lm_m25.2.2.2.2.2))  s0 σ = some r) : lm_rn sc d lm_m25.2.2.2.2.1 (lm_reg lm_m25.2.2.2.2.2) (18, [], [.ref s0]) σ = some r := lm_rn_of h
/-- LatticeSuiteModel.kemOpen, from 0 on -/
noncomputable def lm_q26_0 (sc : lm_H) (A : Nat → List Value → lm_M lm_R) (B : lm_F → lm_M lm_R) (x0 : Nat) (x1 : Int32) : lm_M lm_R :=
  lm_bind (lm_asI (A 52 [.int x1, .int (Int32.ofInt 0), .int (Int32.ofInt 2)])) fun v1 =>
  lm_bind (lm_sel [(11, 49)] (some (.ref x0))) fun y2 =>
  lm_bind (lm_asI (A y2 [.ref x0, .int v1, .int (Int32.ofInt 1)])) fun v3 =>
  lm_if .ne v3 0 (lm_bind (lm_sel [(11, 68)] (some (.ref x0))) fun y4 =>
  lm_bind (lm_asV (A y4 [.ref x0, .int x1])) fun _ =>
  lm_bind (lm_gI 4528 x0) fun v5 =>
  lm_bind (lm_gI 4536 x0) fun v6 =>
  lm_bind (lm_gI 4528 x0) fun v7 =>
  lm_bind (lm_gI 4540 x0) fun v8 =>
  lm_bind (lm_gR 4410 x0) fun v9 =>
  lm_bind (lm_iald sc v9 (Int32.ofInt 5)) fun v10 =>
  lm_if .ne v10 ((Int32.ofInt 32) * ((v6 * v7) + v8)) (B (82, [(0, .ref x0), (2, .int ((Int32.ofInt 384) * v5)), (3, .int ((Int32.ofInt 32) * ((v6 * v7) + v8)))], [])) (lm_bind (lm_gR 4410 x0) fun v11 =>
  lm_bind (lm_iald sc v11 (Int32.ofInt 2)) fun v12 =>
  lm_bind (lm_gI 4528 x0) fun v13 =>
  lm_if .ne v12 (((Int32.ofInt 768) * v13) + (Int32.ofInt 96)) (B (82, [(0, .ref x0), (2, .int ((Int32.ofInt 384) * v5)), (3, .int ((Int32.ofInt 32) * ((v6 * v7) + v8)))], [])) (B (83, [(0, .ref x0), (2, .int ((Int32.ofInt 384) * v5)), (3, .int ((Int32.ofInt 32) * ((v6 * v7) + v8)))], [.int (Int32.ofInt 1)])))) (lm_ret (some (.int (Int32.ofInt 0))))
set_option maxRecDepth 100000 in
theorem lm_e26_0 {sc : lm_H} {d : Nat} {x0 : Nat} {x1 : Int32} {σ : lm_S} {r : Except Nat lm_R × lm_S} (h : lm_q26_0 sc (lm_cal sc d) (lm_rn sc d lm_m26.2.2.2.2.1 (lm_reg lm_m26.2.2.2.2.2)) x0 x1  σ = some r) : lm_rn sc d lm_m26.2.2.2.2.1 (lm_reg lm_m26.2.2.2.2.2) (0, [(0, .ref x0), (1, .int x1)], []) σ = some r := lm_rn_of h
/-- LatticeSuiteModel.kemOpen, from 82 on -/
noncomputable def lm_q26_82 (sc : lm_H) (A : Nat → List Value → lm_M lm_R) (B : lm_F → lm_M lm_R) (x0 : Nat) (x2 : Int32) (x3 : Int32) : lm_M lm_R :=
  B (83, [(0, .ref x0), (2, .int x2), (3, .int x3)], [.int (Int32.ofInt 0)])
set_option maxRecDepth 100000 in
theorem lm_e26_82 {sc : lm_H} {d : Nat} {x0 : Nat} {x2 : Int32} {x3 : Int32} {σ : lm_S} {r : Except Nat lm_R × lm_S} (h : lm_q26_82 sc (lm_cal sc d) (lm_rn sc d lm_m26.2.2.2.2.1 (lm_reg lm_m26.2.2.2.2.2)) x0 x2 x3  σ = some r) : lm_rn sc d lm_m26.2.2.2.2.1 (lm_reg lm_m26.2.2.2.2.2) (82, [(0, .ref x0), (2, .int x2), (3, .int x3)], []) σ = some r := lm_rn_of h
/-- LatticeSuiteModel.kemOpen, from 83 on -/
noncomputable def lm_q26_83 (sc : lm_H) (A : Nat → List Value → lm_M lm_R) (B : lm_F → lm_M lm_R) (x0 : Nat) (x2 : Int32) (x3 : Int32) (s0 : Int32) : lm_M lm_R :=
  lm_if .eq s0 0 (B (146, [(0, .ref x0), (2, .int x2), (3, .int x3), (4, .int s0)], [])) (lm_bind (lm_sel [(11, 61)] (some (.ref x0))) fun y1 =>
  lm_bind (lm_asV (A y1 [.ref x0, .int (Int32.ofInt 8)])) fun _ =>
  lm_bind (lm_gR 4406 x0) fun v2 =>
  lm_bind (lm_aaR sc v2 (Int32.ofInt 2)) fun v3 =>
  lm_bind (lm_sel [(11, 62)] (some (.ref x0))) fun y4 =>
  lm_bind (lm_asV (A y4 [.ref x0, .ref v3, .int x2, .int (x2 + (Int32.ofInt 32))])) fun _ =>
  lm_bind (lm_gR 4514 x0) fun v5 =>
  lm_bind (lm_sel [(11, 63)] (some (.ref x0))) fun y6 =>
  lm_bind (lm_asV (A y6 [.ref x0, .ref v5, .int (Int32.ofInt 0), .int (Int32.ofInt 32)])) fun _ =>
  lm_bind (lm_gR 4514 x0) fun v7 =>
  lm_bind (lm_gR 4406 x0) fun v8 =>
  lm_bind (lm_aaR sc v8 (Int32.ofInt 2)) fun v9 =>
  lm_bind (lm_asI (A 80 [.ref v7, .int (Int32.ofInt 0), .ref v9, .int (((Int32.ofInt 2) * x2) + (Int32.ofInt 32)), .int (Int32.ofInt 32)])) fun v10 =>
  B (146, [(0, .ref x0), (2, .int x2), (3, .int x3), (4, .int v10)], []))
set_option maxRecDepth 100000 in
theorem lm_e26_83 {sc : lm_H} {d : Nat} {x0 : Nat} {x2 : Int32} {x3 : Int32} {s0 : Int32} {σ : lm_S} {r : Except Nat lm_R × lm_S} (h : lm_q26_83 sc (lm_cal sc d) (lm_rn sc d lm_m26.2.2.2.2.1 (lm_reg lm_m26.2.2.2.2.2)) x0 x2 x3 s0 σ = some r) : lm_rn sc d lm_m26.2.2.2.2.1 (lm_reg lm_m26.2.2.2.2.2) (83, [(0, .ref x0), (2, .int x2), (3, .int x3)], [.int s0]) σ = some r := lm_rn_of h
/-- LatticeSuiteModel.kemOpen, from 146 on -/
noncomputable def lm_q26_146 (sc : lm_H) (A : Nat → List Value → lm_M lm_R) (B : lm_F → lm_M lm_R) (x0 : Nat) (x2 : Int32) (x3 : Int32) (x4 : Int32) : lm_M lm_R :=
  lm_bind (lm_sel [(11, 49)] (some (.ref x0))) fun y1 =>
  lm_bind (lm_asI (A y1 [.ref x0, .int x4, .int (Int32.ofInt 2)])) fun v2 =>
  lm_if .ne v2 0 (lm_bind (lm_gR 4510 x0) fun v3 =>
  lm_bind (lm_aaR sc v3 (Int32.ofInt 10)) fun v4 =>
  lm_bind (lm_asV (A 81 [.ref v4])) fun _ =>
  B (171, [(0, .ref x0), (2, .int x2), (3, .int x3), (5, .int (Int32.ofInt 0))], [])) (lm_ret (some (.int (Int32.ofInt 0))))
set_option maxRecDepth 100000 in
theorem lm_e26_146 {sc : lm_H} {d : Nat} {x0 : Nat} {x2 : Int32} {x3 : Int32} {x4 : Int32} {σ : lm_S} {r : Except Nat lm_R × lm_S} (h : lm_q26_146 sc (lm_cal sc d) (lm_rn sc d lm_m26.2.2.2.2.1 (lm_reg lm_m26.2.2.2.2.2)) x0 x2 x3 x4  σ = some r) : lm_rn sc d lm_m26.2.2.2.2.1 (lm_reg lm_m26.2.2.2.2.2) (146, [(0, .ref x0), (2, .int x2), (3, .int x3), (4, .int x4)], []) σ = some r := lm_rn_of h
/-- LatticeSuiteModel.kemOpen, from 171 on -/
noncomputable def lm_q26_171 (sc : lm_H) (A : Nat → List Value → lm_M lm_R) (B : lm_F → lm_M lm_R) (x0 : Nat) (x2 : Int32) (x3 : Int32) (x5 : Int32) : lm_M lm_R :=
  lm_bind (lm_gI 4528 x0) fun v1 =>
  lm_if .ge x5 v1 (lm_bind (lm_gR 4510 x0) fun v2 =>
  lm_bind (lm_aaR sc v2 (Int32.ofInt 10)) fun v3 =>
  lm_bind (lm_sel [(11, 83)] (some (.ref x0))) fun y4 =>
  lm_bind (lm_asV (A y4 [.ref x0, .ref v3])) fun _ =>
  lm_bind (lm_gI 4536 x0) fun v5 =>
  lm_bind (lm_gI 4528 x0) fun v6 =>
  lm_bind (lm_putf 4496 x0 (.int (((Int32.ofInt 256) * v5) * v6))) fun _ =>
  B (371, [(0, .ref x0), (2, .int x2), (3, .int x3), (5, .int (Int32.ofInt 0))], [])) (lm_bind (lm_gI 4536 x0) fun v7 =>
  lm_bind (lm_putf 4496 x0 (.int (((Int32.ofInt 256) * v7) * x5))) fun _ =>
  B (198, [(0, .ref x0), (2, .int x2), (3, .int x3), (5, .int x5), (6, .int (Int32.ofInt 0))], []))
set_option maxRecDepth 100000 in
theorem lm_e26_171 {sc : lm_H} {d : Nat} {x0 : Nat} {x2 : Int32} {x3 : Int32} {x5 : Int32} {σ : lm_S} {r : Except Nat lm_R × lm_S} (h : lm_q26_171 sc (lm_cal sc d) (lm_rn sc d lm_m26.2.2.2.2.1 (lm_reg lm_m26.2.2.2.2.2)) x0 x2 x3 x5  σ = some r) : lm_rn sc d lm_m26.2.2.2.2.1 (lm_reg lm_m26.2.2.2.2.2) (171, [(0, .ref x0), (2, .int x2), (3, .int x3), (5, .int x5)], []) σ = some r := lm_rn_of h
/-- LatticeSuiteModel.kemOpen, from 371 on -/
noncomputable def lm_q26_371 (sc : lm_H) (A : Nat → List Value → lm_M lm_R) (B : lm_F → lm_M lm_R) (x0 : Nat) (x2 : Int32) (x3 : Int32) (x5 : Int32) : lm_M lm_R :=
  lm_if .ge x5 (Int32.ofInt 256) (lm_bind (lm_putf 4496 x0 (.int (Int32.ofInt 0))) fun _ =>
  B (425, [(0, .ref x0), (2, .int x2), (3, .int x3), (5, .int (Int32.ofInt 0))], [])) (lm_bind (lm_gR 4510 x0) fun v1 =>
  lm_bind (lm_aaR sc v1 (Int32.ofInt 11)) fun v2 =>
  lm_bind (lm_gR 4406 x0) fun v3 =>
  lm_bind (lm_aaR sc v3 (Int32.ofInt 5)) fun v4 =>
  lm_bind (lm_gI 4540 x0) fun v5 =>
  lm_bind (lm_sel [(11, 77)] (some (.ref x0))) fun y6 =>
  lm_bind (lm_asI (A y6 [.ref x0, .ref v4, .int (Int32.ofInt 0), .int v5])) fun v7 =>
  lm_bind (lm_gI 4540 x0) fun v8 =>
  lm_bind (lm_asI (A 82 [.int v7, .int v8])) fun v9 =>
  lm_bind (lm_iast v2 x5 v9) fun _ =>
  B (371, [(0, .ref x0), (2, .int x2), (3, .int x3), (5, .int (x5 + Int32.ofInt 1))], []))
set_option maxRecDepth 100000 in
theorem lm_e26_371 {sc : lm_H} {d : Nat} {x0 : Nat} {x2 : Int32} {x3 : Int32} {x5 : Int32} {σ : lm_S} {r : Except Nat lm_R × lm_S} (h : lm_q26_371 sc (lm_cal sc d) (lm_rn sc d lm_m26.2.2.2.2.1 (lm_reg lm_m26.2.2.2.2.2)) x0 x2 x3 x5  σ = some r) : lm_rn sc d lm_m26.2.2.2.2.1 (lm_reg lm_m26.2.2.2.2.2) (371, [(0, .ref x0), (2, .int x2), (3, .int x3), (5, .int x5)], []) σ = some r := lm_rn_of h
/-- LatticeSuiteModel.kemOpen, from 198 on -/
noncomputable def lm_q26_198 (sc : lm_H) (A : Nat → List Value → lm_M lm_R) (B : lm_F → lm_M lm_R) (x0 : Nat) (x2 : Int32) (x3 : Int32) (x5 : Int32) (x6 : Int32) : lm_M lm_R :=
  lm_if .ge x6 (Int32.ofInt 256) (lm_bind (lm_gR 4510 x0) fun v1 =>
  lm_bind (lm_aaR sc v1 (Int32.ofInt 11)) fun v2 =>
  lm_bind (lm_sel [(11, 71)] (some (.ref x0))) fun y3 =>
  lm_bind (lm_asV (A y3 [.ref x0, .ref v2])) fun _ =>
  lm_bind (lm_putf 4496 x0 (.int ((Int32.ofInt 3072) * x5))) fun _ =>
  B (268, [(0, .ref x0), (2, .int x2), (3, .int x3), (5, .int x5), (6, .int (Int32.ofInt 0))], [])) (lm_bind (lm_gR 4510 x0) fun v4 =>
  lm_bind (lm_aaR sc v4 (Int32.ofInt 11)) fun v5 =>
  lm_bind (lm_gR 4406 x0) fun v6 =>
  lm_bind (lm_aaR sc v6 (Int32.ofInt 5)) fun v7 =>
  lm_bind (lm_gI 4536 x0) fun v8 =>
  lm_bind (lm_sel [(11, 77)] (some (.ref x0))) fun y9 =>
  lm_bind (lm_asI (A y9 [.ref x0, .ref v7, .int (Int32.ofInt 0), .int v8])) fun v10 =>
  lm_bind (lm_gI 4536 x0) fun v11 =>
  lm_bind (lm_asI (A 82 [.int v10, .int v11])) fun v12 =>
  lm_bind (lm_iast v5 x6 v12) fun _ =>
  B (198, [(0, .ref x0), (2, .int x2), (3, .int x3), (5, .int x5), (6, .int (x6 + Int32.ofInt 1))], []))
set_option maxRecDepth 100000 in
theorem lm_e26_198 {sc : lm_H} {d : Nat} {x0 : Nat} {x2 : Int32} {x3 : Int32} {x5 : Int32} {x6 : Int32} {σ : lm_S} {r : Except Nat lm_R × lm_S} (h : lm_q26_198 sc (lm_cal sc d) (lm_rn sc d lm_m26.2.2.2.2.1 (lm_reg lm_m26.2.2.2.2.2)) x0 x2 x3 x5 x6  σ = some r) : lm_rn sc d lm_m26.2.2.2.2.1 (lm_reg lm_m26.2.2.2.2.2) (198, [(0, .ref x0), (2, .int x2), (3, .int x3), (5, .int x5), (6, .int x6)], []) σ = some r := lm_rn_of h
/-- LatticeSuiteModel.kemOpen, from 425 on -/
noncomputable def lm_q26_425 (sc : lm_H) (A : Nat → List Value → lm_M lm_R) (B : lm_F → lm_M lm_R) (x0 : Nat) (x2 : Int32) (x3 : Int32) (x5 : Int32) : lm_M lm_R :=
  lm_if .ge x5 (Int32.ofInt 256) (lm_bind (lm_sel [(11, 61)] (some (.ref x0))) fun y1 =>
  lm_bind (lm_asV (A y1 [.ref x0, .int (Int32.ofInt 10)])) fun _ =>
  lm_bind (lm_gR 4546 x0) fun v2 =>
  lm_bind (lm_sel [(11, 62)] (some (.ref x0))) fun y3 =>
  lm_bind (lm_asV (A y3 [.ref x0, .ref v2, .int (Int32.ofInt 0), .int (Int32.ofInt 32)])) fun _ =>
  lm_bind (lm_gR 4406 x0) fun v4 =>
  lm_bind (lm_aaR sc v4 (Int32.ofInt 2)) fun v5 =>
  lm_bind (lm_sel [(11, 62)] (some (.ref x0))) fun y6 =>
  lm_bind (lm_asV (A y6 [.ref x0, .ref v5, .int (((Int32.ofInt 2) * x2) + (Int32.ofInt 32)), .int (Int32.ofInt 32)])) fun _ =>
  lm_bind (lm_gR 4514 x0) fun v7 =>
  lm_bind (lm_sel [(11, 63)] (some (.ref x0))) fun y8 =>
  lm_bind (lm_asV (A y8 [.ref x0, .ref v7, .int (Int32.ofInt 64), .int (Int32.ofInt 64)])) fun _ =>
  lm_bind (lm_gR 4406 x0) fun v9 =>
  lm_bind (lm_aaR sc v9 (Int32.ofInt 2)) fun v10 =>
  lm_bind (lm_gR 4546 x0) fun v11 =>
  lm_bind (lm_gR 4514 x0) fun v12 =>
  lm_bind (lm_sel [(11, 78)] (some (.ref x0))) fun y13 =>
  lm_bind (lm_asI (A y13 [.ref x0, .ref v10, .int x2, .ref v11, .ref v12, .int (Int32.ofInt 96)])) fun v14 =>
  lm_bind (lm_sel [(11, 49)] (some (.ref x0))) fun y15 =>
  lm_bind (lm_asI (A y15 [.ref x0, .int v14, .int (Int32.ofInt 3)])) fun v16 =>
  lm_if .ne v16 0 (lm_bind (lm_gR 4526 x0) fun v17 =>
  lm_bind (lm_gR 4406 x0) fun v18 =>
  lm_bind (lm_aaR sc v18 (Int32.ofInt 5)) fun v19 =>
  lm_bind (lm_asI (A 80 [.ref v17, .int (Int32.ofInt 0), .ref v19, .int (Int32.ofInt 0), .int x3])) fun v20 =>
  lm_if .eq v20 0 (lm_bind (lm_sel [(11, 61)] (some (.ref x0))) fun y21 =>
  lm_bind (lm_asV (A y21 [.ref x0, .int (Int32.ofInt 12)])) fun _ =>
  lm_bind (lm_gR 4406 x0) fun v22 =>
  lm_bind (lm_aaR sc v22 (Int32.ofInt 2)) fun v23 =>
  lm_bind (lm_sel [(11, 62)] (some (.ref x0))) fun y24 =>
  lm_bind (lm_asV (A y24 [.ref x0, .ref v23, .int (((Int32.ofInt 2) * x2) + (Int32.ofInt 64)), .int (Int32.ofInt 32)])) fun _ =>
  lm_bind (lm_gR 4406 x0) fun v25 =>
  lm_bind (lm_aaR sc v25 (Int32.ofInt 5)) fun v26 =>
  lm_bind (lm_sel [(11, 62)] (some (.ref x0))) fun y27 =>
  lm_bind (lm_asV (A y27 [.ref x0, .ref v26, .int (Int32.ofInt 0), .int x3])) fun _ =>
  lm_bind (lm_gR 4406 x0) fun v28 =>
  lm_bind (lm_aaR sc v28 (Int32.ofInt 6)) fun v29 =>
  lm_bind (lm_sel [(11, 63)] (some (.ref x0))) fun y30 =>
  lm_bind (lm_asV (A y30 [.ref x0, .ref v29, .int (Int32.ofInt 0), .int (Int32.ofInt 32)])) fun _ =>
  B (655, [(0, .ref x0), (5, .int v20)], [])) (lm_bind (lm_gR 4514 x0) fun v31 =>
  lm_bind (lm_gR 4406 x0) fun v32 =>
  lm_bind (lm_aaR sc v32 (Int32.ofInt 6)) fun v33 =>
  lm_bind (lm_asV (A 75 [.ref v31, .int (Int32.ofInt 64), .ref v33, .int (Int32.ofInt 0), .int (Int32.ofInt 32)])) fun _ =>
  B (655, [(0, .ref x0), (5, .int v20)], []))) (lm_ret (some (.int (Int32.ofInt 0))))) (lm_bind (lm_gR 4546 x0) fun v34 =>
  lm_bind (lm_gR 4510 x0) fun v35 =>
  lm_bind (lm_aaR sc v35 (Int32.ofInt 11)) fun v36 =>
  lm_bind (lm_iald sc v36 x5) fun v37 =>
  lm_bind (lm_gR 4510 x0) fun v38 =>
  lm_bind (lm_aaR sc v38 (Int32.ofInt 10)) fun v39 =>
  lm_bind (lm_iald sc v39 x5) fun v40 =>
  lm_when (¬ (Int32.ofInt 3329) = 0) inferInstance (lm_bind (lm_asI (A 84 [.int (lm_rem ((v37 - v40) + (Int32.ofInt 3329)) (Int32.ofInt 3329)), .int (Int32.ofInt 1)])) fun v41 =>
  lm_bind (lm_sel [(11, 74)] (some (.ref x0))) fun y42 =>
  lm_bind (lm_asV (A y42 [.ref x0, .ref v34, .int (Int32.ofInt 0), .int v41, .int (Int32.ofInt 1)])) fun _ =>
  B (425, [(0, .ref x0), (2, .int x2), (3, .int x3), (5, .int (x5 + Int32.ofInt 1))], [])))
set_option maxRecDepth 100000 in
theorem lm_e26_425 {sc : lm_H} {d : Nat} {x0 : Nat} {x2 : Int32} {x3 : Int32} {x5 : Int32} {σ : lm_S} {r : Except Nat lm_R × lm_S} (h : lm_q26_425 sc (lm_cal sc d) (lm_rn sc d lm_m26.2.2.2.2.1 (lm_reg lm_m26.2.2.2.2.2)) x0 x2 x3 x5  σ = some r) : lm_rn sc d lm_m26.2.2.2.2.1 (lm_reg lm_m26.2.2.2.2.2) (425, [(0, .ref x0), (2, .int x2), (3, .int x3), (5, .int x5)], []) σ = some r := lm_rn_of h
/-- LatticeSuiteModel.kemOpen, from 268 on -/
noncomputable def lm_q26_268 (sc : lm_H) (A : Nat → List Value → lm_M lm_R) (B : lm_F → lm_M lm_R) (x0 : Nat) (x2 : Int32) (x3 : Int32) (x5 : Int32) (x6 : Int32) : lm_M lm_R :=
  lm_if .ge x6 (Int32.ofInt 256) (lm_bind (lm_gR 4510 x0) fun v1 =>
  lm_bind (lm_aaR sc v1 (Int32.ofInt 10)) fun v2 =>
  lm_bind (lm_gR 4510 x0) fun v3 =>
  lm_bind (lm_aaR sc v3 (Int32.ofInt 11)) fun v4 =>
  lm_bind (lm_gR 4510 x0) fun v5 =>
  lm_bind (lm_aaR sc v5 (Int32.ofInt 12)) fun v6 =>
  lm_bind (lm_sel [(11, 73)] (some (.ref x0))) fun y7 =>
  lm_bind (lm_asV (A y7 [.ref x0, .ref v2, .ref v4, .ref v6])) fun _ =>
  B (171, [(0, .ref x0), (2, .int x2), (3, .int x3), (5, .int (x5 + Int32.ofInt 1))], [])) (lm_bind (lm_gR 4510 x0) fun v8 =>
  lm_bind (lm_aaR sc v8 (Int32.ofInt 12)) fun v9 =>
  lm_bind (lm_gR 4406 x0) fun v10 =>
  lm_bind (lm_aaR sc v10 (Int32.ofInt 2)) fun v11 =>
  lm_bind (lm_sel [(11, 77)] (some (.ref x0))) fun y12 =>
  lm_bind (lm_asI (A y12 [.ref x0, .ref v11, .int (Int32.ofInt 0), .int (Int32.ofInt 12)])) fun v13 =>
  lm_when (¬ (Int32.ofInt 3329) = 0) inferInstance (lm_bind (lm_iast v9 x6 (lm_rem v13 (Int32.ofInt 3329))) fun _ =>
  B (268, [(0, .ref x0), (2, .int x2), (3, .int x3), (5, .int x5), (6, .int (x6 + Int32.ofInt 1))], [])))
set_option maxRecDepth 100000 in
theorem lm_e26_268 {sc : lm_H} {d : Nat} {x0 : Nat} {x2 : Int32} {x3 : Int32} {x5 : Int32} {x6 : Int32} {σ : lm_S} {r : Except Nat lm_R × lm_S} (h : lm_q26_268 sc (lm_cal sc d) (lm_rn sc d lm_m26.2.2.2.2.1 (lm_reg lm_m26.2.2.2.2.2)) x0 x2 x3 x5 x6  σ = some r) : lm_rn sc d lm_m26.2.2.2.2.1 (lm_reg lm_m26.2.2.2.2.2) (268, [(0, .ref x0), (2, .int x2), (3, .int x3), (5, .int x5), (6, .int x6)], []) σ = some r := lm_rn_of h
/-- LatticeSuiteModel.kemOpen, from 655 on -/
noncomputable def lm_q26_655 (sc : lm_H) (A : Nat → List Value → lm_M lm_R) (B : lm_F → lm_M lm_R) (x0 : Nat) (x5 : Int32) : lm_M lm_R :=
  lm_bind (lm_gR 4410 x0) fun v1 =>
  lm_bind (lm_iast v1 (Int32.ofInt 6) (Int32.ofInt 32)) fun _ =>
  lm_if .eq x5 0 (lm_ret (some (.int (Int32.ofInt 0)))) (lm_ret (some (.int (Int32.ofInt 1))))
set_option maxRecDepth 100000 in
theorem lm_e26_655 {sc : lm_H} {d : Nat} {x0 : Nat} {x5 : Int32} {σ : lm_S} {r : Except Nat lm_R × lm_S} (h : lm_q26_655 sc (lm_cal sc d) (lm_rn sc d lm_m26.2.2.2.2.1 (lm_reg lm_m26.2.2.2.2.2)) x0 x5  σ = some r) : lm_rn sc d lm_m26.2.2.2.2.1 (lm_reg lm_m26.2.2.2.2.2) (655, [(0, .ref x0), (5, .int x5)], []) σ = some r := lm_rn_of h
/-- LatticeSuiteLaw.dsaKeys, from 0 on -/
noncomputable def lm_q27_0 (sc : lm_H) (A : Nat → List Value → lm_M lm_R) (B : lm_F → lm_M lm_R) (x0 : Nat) (x1 : Int32) (x2 : Nat) : lm_M lm_R :=
  lm_bind (lm_sel [(0, 85)] (some (.ref x0))) fun y1 =>
  lm_try (lm_asI (A y1 [.ref x0, .int x1])) [(13, 12), (14, 15), (15, 18)] (fun v2 =>
  lm_bind (lm_last x2 (Int32.ofInt 0) (Int32.toInt64 v2)) fun _ =>
  lm_ret (some (.int (Int32.ofInt 0)))) (fun h q => B (h, [], [.ref q]))
set_option maxRecDepth 100000 in
theorem lm_e27_0 {sc : lm_H} {d : Nat} {x0 : Nat} {x1 : Int32} {x2 : Nat} {σ : lm_S} {r : Except Nat lm_R × lm_S} (h : lm_q27_0 sc (lm_cal sc d) (lm_rn sc d lm_m27.2.2.2.2.1 (lm_reg lm_m27.2.2.2.2.2)) x0 x1 x2  σ = some r) : lm_rn sc d lm_m27.2.2.2.2.1 (lm_reg lm_m27.2.2.2.2.2) (0, [(0, .ref x0), (1, .int x1), (2, .ref x2)], []) σ = some r := lm_rn_of h
/-- LatticeSuiteLaw.dsaKeys, from 12 on -/
noncomputable def lm_q27_12 (sc : lm_H) (A : Nat → List Value → lm_M lm_R) (B : lm_F → lm_M lm_R)  (s0 : Nat) : lm_M lm_R :=
  lm_ret (some (.int (Int32.ofInt 1)))
set_option maxRecDepth 100000 in
theorem lm_e27_12 {sc : lm_H} {d : Nat}  {s0 : Nat} {σ : lm_S} {r : Except Nat lm_R × lm_S} (h : lm_q27_12 sc (lm_cal sc d) (lm_rn sc d lm_m27.2.2.2.2.1 (lm_reg lm_m27.2.2.2.2.2))  s0 σ = some r) : lm_rn sc d lm_m27.2.2.2.2.1 (lm_reg lm_m27.2.2.2.2.2) (12, [], [.ref s0]) σ = some r := lm_rn_of h
/-- LatticeSuiteLaw.dsaKeys, from 15 on -/
noncomputable def lm_q27_15 (sc : lm_H) (A : Nat → List Value → lm_M lm_R) (B : lm_F → lm_M lm_R)  (s0 : Nat) : lm_M lm_R :=
  lm_ret (some (.int (Int32.ofInt 2)))
set_option maxRecDepth 100000 in
theorem lm_e27_15 {sc : lm_H} {d : Nat}  {s0 : Nat} {σ : lm_S} {r : Except Nat lm_R × lm_S} (h : lm_q27_15 sc (lm_cal sc d) (lm_rn sc d lm_m27.2.2.2.2.1 (lm_reg lm_m27.2.2.2.2.2))  s0 σ = some r) : lm_rn sc d lm_m27.2.2.2.2.1 (lm_reg lm_m27.2.2.2.2.2) (15, [], [.ref s0]) σ = some r := lm_rn_of h
/-- LatticeSuiteLaw.dsaKeys, from 18 on -/
noncomputable def lm_q27_18 (sc : lm_H) (A : Nat → List Value → lm_M lm_R) (B : lm_F → lm_M lm_R)  (s0 : Nat) : lm_M lm_R :=
  lm_ret (some (.int (Int32.ofInt 3)))
set_option maxRecDepth 100000 in
theorem lm_e27_18 {sc : lm_H} {d : Nat}  {s0 : Nat} {σ : lm_S} {r : Except Nat lm_R × lm_S} (h : lm_q27_18 sc (lm_cal sc d) (lm_rn sc d lm_m27.2.2.2.2.1 (lm_reg lm_m27.2.2.2.2.2))  s0 σ = some r) : lm_rn sc d lm_m27.2.2.2.2.1 (lm_reg lm_m27.2.2.2.2.2) (18, [], [.ref s0]) σ = some r := lm_rn_of h
/-- LatticeSuiteModel.dsaKeys, from 0 on -/
noncomputable def lm_q28_0 (sc : lm_H) (A : Nat → List Value → lm_M lm_R) (B : lm_F → lm_M lm_R) (x0 : Nat) (x1 : Int32) : lm_M lm_R :=
  lm_bind (lm_asI (A 52 [.int x1, .int (Int32.ofInt 0), .int (Int32.ofInt 2)])) fun v1 =>
  lm_bind (lm_sel [(11, 49)] (some (.ref x0))) fun y2 =>
  lm_bind (lm_asI (A y2 [.ref x0, .int v1, .int (Int32.ofInt 1)])) fun v3 =>
  lm_if .eq v3 0 (lm_ret (some (.int (Int32.ofInt 0)))) (lm_bind (lm_gR 4410 x0) fun v4 =>
  lm_bind (lm_iald sc v4 (Int32.ofInt 0)) fun v5 =>
  lm_if .ne v5 (Int32.ofInt 32) (B (31, [(0, .ref x0), (1, .int x1)], [.int (Int32.ofInt 0), .ref x0])) (B (31, [(0, .ref x0), (1, .int x1)], [.int (Int32.ofInt 1), .ref x0])))
set_option maxRecDepth 100000 in
theorem lm_e28_0 {sc : lm_H} {d : Nat} {x0 : Nat} {x1 : Int32} {σ : lm_S} {r : Except Nat lm_R × lm_S} (h : lm_q28_0 sc (lm_cal sc d) (lm_rn sc d lm_m28.2.2.2.2.1 (lm_reg lm_m28.2.2.2.2.2)) x0 x1  σ = some r) : lm_rn sc d lm_m28.2.2.2.2.1 (lm_reg lm_m28.2.2.2.2.2) (0, [(0, .ref x0), (1, .int x1)], []) σ = some r := lm_rn_of h
/-- LatticeSuiteModel.dsaKeys, from 31 on -/
noncomputable def lm_q28_31 (sc : lm_H) (A : Nat → List Value → lm_M lm_R) (B : lm_F → lm_M lm_R) (x0 : Nat) (x1 : Int32) (s0 : Int32) (s1 : Nat) : lm_M lm_R :=
  lm_bind (lm_sel [(11, 49)] (some (.ref s1))) fun y1 =>
  lm_bind (lm_asI (A y1 [.ref s1, .int s0, .int (Int32.ofInt 2)])) fun v2 =>
  lm_if .ne v2 0 (lm_bind (lm_sel [(11, 86)] (some (.ref x0))) fun y3 =>
  lm_bind (lm_asV (A y3 [.ref x0, .int x1])) fun _ =>
  lm_bind (lm_sel [(11, 61)] (some (.ref x0))) fun y4 =>
  lm_bind (lm_asV (A y4 [.ref x0, .int (Int32.ofInt 12)])) fun _ =>
  lm_bind (lm_gR 4406 x0) fun v5 =>
  lm_bind (lm_aaR sc v5 (Int32.ofInt 0)) fun v6 =>
  lm_bind (lm_sel [(11, 62)] (some (.ref x0))) fun y7 =>
  lm_bind (lm_asV (A y7 [.ref x0, .ref v6, .int (Int32.ofInt 0), .int (Int32.ofInt 32)])) fun _ =>
  lm_bind (lm_gI 4528 x0) fun v8 =>
  lm_bind (lm_sel [(11, 69)] (some (.ref x0))) fun y9 =>
  lm_bind (lm_asV (A y9 [.ref x0, .int v8])) fun _ =>
  lm_bind (lm_gI 4568 x0) fun v10 =>
  lm_bind (lm_sel [(11, 69)] (some (.ref x0))) fun y11 =>
  lm_bind (lm_asV (A y11 [.ref x0, .int v10])) fun _ =>
  lm_bind (lm_gR 4514 x0) fun v12 =>
  lm_bind (lm_sel [(11, 63)] (some (.ref x0))) fun y13 =>
  lm_bind (lm_asV (A y13 [.ref x0, .ref v12, .int (Int32.ofInt 0), .int (Int32.ofInt 128)])) fun _ =>
  B (96, [(0, .ref x0), (2, .int (Int32.ofInt 1)), (3, .int (Int32.ofInt 0))], [])) (lm_ret (some (.int (Int32.ofInt 0))))
set_option maxRecDepth 100000 in
theorem lm_e28_31 {sc : lm_H} {d : Nat} {x0 : Nat} {x1 : Int32} {s0 : Int32} {s1 : Nat} {σ : lm_S} {r : Except Nat lm_R × lm_S} (h : lm_q28_31 sc (lm_cal sc d) (lm_rn sc d lm_m28.2.2.2.2.1 (lm_reg lm_m28.2.2.2.2.2)) x0 x1 s0 s1 σ = some r) : lm_rn sc d lm_m28.2.2.2.2.1 (lm_reg lm_m28.2.2.2.2.2) (31, [(0, .ref x0), (1, .int x1)], [.int s0, .ref s1]) σ = some r := lm_rn_of h
/-- LatticeSuiteModel.dsaKeys, from 96 on -/
noncomputable def lm_q28_96 (sc : lm_H) (A : Nat → List Value → lm_M lm_R) (B : lm_F → lm_M lm_R) (x0 : Nat) (x2 : Int32) (x3 : Int32) : lm_M lm_R :=
  lm_bind (lm_gI 4568 x0) fun v1 =>
  lm_bind (lm_gI 4528 x0) fun v2 =>
  lm_if .ge x3 (v1 + v2) (lm_bind (lm_sel [(11, 49)] (some (.ref x0))) fun y3 =>
  lm_bind (lm_asI (A y3 [.ref x0, .int x2, .int (Int32.ofInt 3)])) fun v4 =>
  lm_if .ne v4 0 (lm_bind (lm_gI 4572 x0) fun v5 =>
  lm_if .ne v5 (Int32.ofInt 2) (B (169, [(0, .ref x0)], [.int (Int32.ofInt 4)])) (B (169, [(0, .ref x0)], [.int (Int32.ofInt 3)]))) (lm_ret (some (.int (Int32.ofInt 0))))) (lm_bind (lm_gR 4554 x0) fun v6 =>
  lm_bind (lm_aaR sc v6 x3) fun v7 =>
  lm_bind (lm_gR 4514 x0) fun v8 =>
  lm_bind (lm_sel [(11, 87)] (some (.ref x0))) fun y9 =>
  lm_bind (lm_asI (A y9 [.ref x0, .ref v7, .ref v8, .int (Int32.ofInt 32), .int x3])) fun v10 =>
  lm_if .eq v10 0 (B (137, [(0, .ref x0), (3, .int x3)], [])) (lm_if .eq x2 0 (B (137, [(0, .ref x0), (3, .int x3)], [])) (B (138, [(0, .ref x0), (3, .int x3)], [.int (Int32.ofInt 1)]))))
set_option maxRecDepth 100000 in
theorem lm_e28_96 {sc : lm_H} {d : Nat} {x0 : Nat} {x2 : Int32} {x3 : Int32} {σ : lm_S} {r : Except Nat lm_R × lm_S} (h : lm_q28_96 sc (lm_cal sc d) (lm_rn sc d lm_m28.2.2.2.2.1 (lm_reg lm_m28.2.2.2.2.2)) x0 x2 x3  σ = some r) : lm_rn sc d lm_m28.2.2.2.2.1 (lm_reg lm_m28.2.2.2.2.2) (96, [(0, .ref x0), (2, .int x2), (3, .int x3)], []) σ = some r := lm_rn_of h
/-- LatticeSuiteModel.dsaKeys, from 169 on -/
noncomputable def lm_q28_169 (sc : lm_H) (A : Nat → List Value → lm_M lm_R) (B : lm_F → lm_M lm_R) (x0 : Nat) (s0 : Int32) : lm_M lm_R :=
  lm_bind (lm_putf 4496 x0 (.int (Int32.ofInt 0))) fun _ =>
  B (178, [(0, .ref x0), (3, .int s0), (4, .int (Int32.ofInt 0))], [])
set_option maxRecDepth 100000 in
theorem lm_e28_169 {sc : lm_H} {d : Nat} {x0 : Nat} {s0 : Int32} {σ : lm_S} {r : Except Nat lm_R × lm_S} (h : lm_q28_169 sc (lm_cal sc d) (lm_rn sc d lm_m28.2.2.2.2.1 (lm_reg lm_m28.2.2.2.2.2)) x0 s0 σ = some r) : lm_rn sc d lm_m28.2.2.2.2.1 (lm_reg lm_m28.2.2.2.2.2) (169, [(0, .ref x0)], [.int s0]) σ = some r := lm_rn_of h
/-- LatticeSuiteModel.dsaKeys, from 137 on -/
noncomputable def lm_q28_137 (sc : lm_H) (A : Nat → List Value → lm_M lm_R) (B : lm_F → lm_M lm_R) (x0 : Nat) (x3 : Int32) : lm_M lm_R :=
  B (138, [(0, .ref x0), (3, .int x3)], [.int (Int32.ofInt 0)])
set_option maxRecDepth 100000 in
theorem lm_e28_137 {sc : lm_H} {d : Nat} {x0 : Nat} {x3 : Int32} {σ : lm_S} {r : Except Nat lm_R × lm_S} (h : lm_q28_137 sc (lm_cal sc d) (lm_rn sc d lm_m28.2.2.2.2.1 (lm_reg lm_m28.2.2.2.2.2)) x0 x3  σ = some r) : lm_rn sc d lm_m28.2.2.2.2.1 (lm_reg lm_m28.2.2.2.2.2) (137, [(0, .ref x0), (3, .int x3)], []) σ = some r := lm_rn_of h
/-- LatticeSuiteModel.dsaKeys, from 138 on -/
noncomputable def lm_q28_138 (sc : lm_H) (A : Nat → List Value → lm_M lm_R) (B : lm_F → lm_M lm_R) (x0 : Nat) (x3 : Int32) (s0 : Int32) : lm_M lm_R :=
  B (96, [(0, .ref x0), (2, .int s0), (3, .int (x3 + Int32.ofInt 1))], [])
set_option maxRecDepth 100000 in
theorem lm_e28_138 {sc : lm_H} {d : Nat} {x0 : Nat} {x3 : Int32} {s0 : Int32} {σ : lm_S} {r : Except Nat lm_R × lm_S} (h : lm_q28_138 sc (lm_cal sc d) (lm_rn sc d lm_m28.2.2.2.2.1 (lm_reg lm_m28.2.2.2.2.2)) x0 x3 s0 σ = some r) : lm_rn sc d lm_m28.2.2.2.2.1 (lm_reg lm_m28.2.2.2.2.2) (138, [(0, .ref x0), (3, .int x3)], [.int s0]) σ = some r := lm_rn_of h
/-- LatticeSuiteModel.dsaKeys, from 178 on -/
noncomputable def lm_q28_178 (sc : lm_H) (A : Nat → List Value → lm_M lm_R) (B : lm_F → lm_M lm_R) (x0 : Nat) (x3 : Int32) (x4 : Int32) : lm_M lm_R :=
  lm_bind (lm_gI 4568 x0) fun v1 =>
  lm_bind (lm_gI 4528 x0) fun v2 =>
  lm_if .ge x4 (v1 + v2) (lm_bind (lm_gI 4496 x0) fun v3 =>
  B (228, [(0, .ref x0), (4, .int v3), (5, .int (Int32.ofInt 0))], [])) (lm_bind (lm_gR 4562 x0) fun v4 =>
  lm_bind (lm_gR 4554 x0) fun v5 =>
  lm_bind (lm_aaR sc v5 x4) fun v6 =>
  lm_bind (lm_gI 4572 x0) fun v7 =>
  lm_bind (lm_sel [(11, 88)] (some (.ref x0))) fun y8 =>
  lm_bind (lm_asV (A y8 [.ref x0, .ref v4, .int (Int32.ofInt 0), .ref v6, .int v7, .int x3])) fun _ =>
  B (178, [(0, .ref x0), (3, .int x3), (4, .int (x4 + Int32.ofInt 1))], []))
set_option maxRecDepth 100000 in
theorem lm_e28_178 {sc : lm_H} {d : Nat} {x0 : Nat} {x3 : Int32} {x4 : Int32} {σ : lm_S} {r : Except Nat lm_R × lm_S} (h : lm_q28_178 sc (lm_cal sc d) (lm_rn sc d lm_m28.2.2.2.2.1 (lm_reg lm_m28.2.2.2.2.2)) x0 x3 x4  σ = some r) : lm_rn sc d lm_m28.2.2.2.2.1 (lm_reg lm_m28.2.2.2.2.2) (178, [(0, .ref x0), (3, .int x3), (4, .int x4)], []) σ = some r := lm_rn_of h
/-- LatticeSuiteModel.dsaKeys, from 228 on -/
noncomputable def lm_q28_228 (sc : lm_H) (A : Nat → List Value → lm_M lm_R) (B : lm_F → lm_M lm_R) (x0 : Nat) (x4 : Int32) (x5 : Int32) : lm_M lm_R :=
  lm_bind (lm_gI 4568 x0) fun v1 =>
  lm_if .ge x5 v1 (lm_bind (lm_putf 4496 x0 (.int (Int32.ofInt 0))) fun _ =>
  B (272, [(0, .ref x0), (4, .int x4), (5, .int (Int32.ofInt 0))], [])) (lm_bind (lm_gR 4554 x0) fun v2 =>
  lm_bind (lm_aaR sc v2 x5) fun v3 =>
  lm_bind (lm_asV (A 89 [.ref v3])) fun _ =>
  lm_bind (lm_gR 4554 x0) fun v4 =>
  lm_bind (lm_aaR sc v4 x5) fun v5 =>
  lm_bind (lm_sel [(11, 90)] (some (.ref x0))) fun y6 =>
  lm_bind (lm_asV (A y6 [.ref x0, .ref v5])) fun _ =>
  B (228, [(0, .ref x0), (4, .int x4), (5, .int (x5 + Int32.ofInt 1))], []))
set_option maxRecDepth 100000 in
theorem lm_e28_228 {sc : lm_H} {d : Nat} {x0 : Nat} {x4 : Int32} {x5 : Int32} {σ : lm_S} {r : Except Nat lm_R × lm_S} (h : lm_q28_228 sc (lm_cal sc d) (lm_rn sc d lm_m28.2.2.2.2.1 (lm_reg lm_m28.2.2.2.2.2)) x0 x4 x5  σ = some r) : lm_rn sc d lm_m28.2.2.2.2.1 (lm_reg lm_m28.2.2.2.2.2) (228, [(0, .ref x0), (4, .int x4), (5, .int x5)], []) σ = some r := lm_rn_of h
/-- LatticeSuiteModel.dsaKeys, from 272 on -/
noncomputable def lm_q28_272 (sc : lm_H) (A : Nat → List Value → lm_M lm_R) (B : lm_F → lm_M lm_R) (x0 : Nat) (x4 : Int32) (x5 : Int32) : lm_M lm_R :=
  lm_bind (lm_gI 4528 x0) fun v1 =>
  lm_if .ge x5 v1 (lm_bind (lm_putf 4496 x0 (.int x4)) fun _ =>
  B (499, [(0, .ref x0), (5, .int (Int32.ofInt 0))], [])) (lm_bind (lm_gR 4554 x0) fun v2 =>
  lm_bind (lm_aaR sc v2 (Int32.ofInt 40)) fun v3 =>
  lm_bind (lm_asV (A 81 [.ref v3])) fun _ =>
  B (294, [(0, .ref x0), (4, .int x4), (5, .int x5), (6, .int (Int32.ofInt 0))], []))
set_option maxRecDepth 100000 in
theorem lm_e28_272 {sc : lm_H} {d : Nat} {x0 : Nat} {x4 : Int32} {x5 : Int32} {σ : lm_S} {r : Except Nat lm_R × lm_S} (h : lm_q28_272 sc (lm_cal sc d) (lm_rn sc d lm_m28.2.2.2.2.1 (lm_reg lm_m28.2.2.2.2.2)) x0 x4 x5  σ = some r) : lm_rn sc d lm_m28.2.2.2.2.1 (lm_reg lm_m28.2.2.2.2.2) (272, [(0, .ref x0), (4, .int x4), (5, .int x5)], []) σ = some r := lm_rn_of h
/-- LatticeSuiteModel.dsaKeys, from 499 on -/
noncomputable def lm_q28_499 (sc : lm_H) (A : Nat → List Value → lm_M lm_R) (B : lm_F → lm_M lm_R) (x0 : Nat) (x5 : Int32) : lm_M lm_R :=
  lm_bind (lm_gI 4528 x0) fun v1 =>
  lm_if .ge x5 v1 (lm_bind (lm_gR 4514 x0) fun v2 =>
  lm_bind (lm_gR 4406 x0) fun v3 =>
  lm_bind (lm_aaR sc v3 (Int32.ofInt 1)) fun v4 =>
  lm_bind (lm_asV (A 75 [.ref v2, .int (Int32.ofInt 0), .ref v4, .int (Int32.ofInt 0), .int (Int32.ofInt 32)])) fun _ =>
  lm_bind (lm_gR 4566 x0) fun v5 =>
  lm_bind (lm_gR 4406 x0) fun v6 =>
  lm_bind (lm_aaR sc v6 (Int32.ofInt 1)) fun v7 =>
  lm_bind (lm_gI 4528 x0) fun v8 =>
  lm_bind (lm_asV (A 75 [.ref v5, .int (Int32.ofInt 0), .ref v7, .int (Int32.ofInt 32), .int ((Int32.ofInt 320) * v8)])) fun _ =>
  lm_bind (lm_gR 4410 x0) fun v9 =>
  lm_bind (lm_gI 4528 x0) fun v10 =>
  lm_bind (lm_iast v9 (Int32.ofInt 1) ((Int32.ofInt 32) + ((Int32.ofInt 320) * v10))) fun _ =>
  lm_bind (lm_gR 4514 x0) fun v11 =>
  lm_bind (lm_gR 4406 x0) fun v12 =>
  lm_bind (lm_aaR sc v12 (Int32.ofInt 2)) fun v13 =>
  lm_bind (lm_asV (A 75 [.ref v11, .int (Int32.ofInt 0), .ref v13, .int (Int32.ofInt 0), .int (Int32.ofInt 32)])) fun _ =>
  lm_bind (lm_gR 4514 x0) fun v14 =>
  lm_bind (lm_gR 4406 x0) fun v15 =>
  lm_bind (lm_aaR sc v15 (Int32.ofInt 2)) fun v16 =>
  lm_bind (lm_asV (A 75 [.ref v14, .int (Int32.ofInt 96), .ref v16, .int (Int32.ofInt 32), .int (Int32.ofInt 32)])) fun _ =>
  lm_bind (lm_sel [(11, 61)] (some (.ref x0))) fun y17 =>
  lm_bind (lm_asV (A y17 [.ref x0, .int (Int32.ofInt 12)])) fun _ =>
  lm_bind (lm_gR 4406 x0) fun v18 =>
  lm_bind (lm_aaR sc v18 (Int32.ofInt 1)) fun v19 =>
  lm_bind (lm_gR 4410 x0) fun v20 =>
  lm_bind (lm_iald sc v20 (Int32.ofInt 1)) fun v21 =>
  lm_bind (lm_sel [(11, 62)] (some (.ref x0))) fun y22 =>
  lm_bind (lm_asV (A y22 [.ref x0, .ref v19, .int (Int32.ofInt 0), .int v21])) fun _ =>
  lm_bind (lm_gR 4406 x0) fun v23 =>
  lm_bind (lm_aaR sc v23 (Int32.ofInt 2)) fun v24 =>
  lm_bind (lm_sel [(11, 63)] (some (.ref x0))) fun y25 =>
  lm_bind (lm_asV (A y25 [.ref x0, .ref v24, .int (Int32.ofInt 64), .int (Int32.ofInt 64)])) fun _ =>
  lm_bind (lm_gR 4410 x0) fun v26 =>
  lm_bind (lm_sel [(11, 94)] (some (.ref x0))) fun y27 =>
  lm_bind (lm_asI (A y27 [.ref x0])) fun v28 =>
  lm_bind (lm_iast v26 (Int32.ofInt 2) v28) fun _ =>
  lm_bind (lm_gR 4562 x0) fun v29 =>
  lm_bind (lm_gR 4406 x0) fun v30 =>
  lm_bind (lm_aaR sc v30 (Int32.ofInt 2)) fun v31 =>
  lm_bind (lm_gR 4410 x0) fun v32 =>
  lm_bind (lm_iald sc v32 (Int32.ofInt 2)) fun v33 =>
  lm_bind (lm_asV (A 75 [.ref v29, .int (Int32.ofInt 0), .ref v31, .int (Int32.ofInt 128), .int (v33 - (Int32.ofInt 128))])) fun _ =>
  lm_bind (lm_gR 4410 x0) fun v34 =>
  lm_bind (lm_iald sc v34 (Int32.ofInt 2)) fun v35 =>
  lm_ret (some (.int v35))) (lm_bind (lm_gR 4562 x0) fun v36 =>
  lm_bind (lm_gR 4554 x0) fun v37 =>
  lm_bind (lm_aaR sc v37 ((Int32.ofInt 20) + x5)) fun v38 =>
  lm_bind (lm_sel [(11, 88)] (some (.ref x0))) fun y39 =>
  lm_bind (lm_asV (A y39 [.ref x0, .ref v36, .int (Int32.ofInt 0), .ref v38, .int (Int32.ofInt 4096), .int (Int32.ofInt 13)])) fun _ =>
  B (499, [(0, .ref x0), (5, .int (x5 + Int32.ofInt 1))], []))
set_option maxRecDepth 100000 in
theorem lm_e28_499 {sc : lm_H} {d : Nat} {x0 : Nat} {x5 : Int32} {σ : lm_S} {r : Except Nat lm_R × lm_S} (h : lm_q28_499 sc (lm_cal sc d) (lm_rn sc d lm_m28.2.2.2.2.1 (lm_reg lm_m28.2.2.2.2.2)) x0 x5  σ = some r) : lm_rn sc d lm_m28.2.2.2.2.1 (lm_reg lm_m28.2.2.2.2.2) (499, [(0, .ref x0), (5, .int x5)], []) σ = some r := lm_rn_of h
/-- LatticeSuiteModel.dsaKeys, from 294 on -/
noncomputable def lm_q28_294 (sc : lm_H) (A : Nat → List Value → lm_M lm_R) (B : lm_F → lm_M lm_R) (x0 : Nat) (x4 : Int32) (x5 : Int32) (x6 : Int32) : lm_M lm_R :=
  lm_bind (lm_gI 4568 x0) fun v1 =>
  lm_if .ge x6 v1 (lm_bind (lm_gR 4554 x0) fun v2 =>
  lm_bind (lm_aaR sc v2 (Int32.ofInt 40)) fun v3 =>
  lm_bind (lm_sel [(11, 93)] (some (.ref x0))) fun y4 =>
  lm_bind (lm_asV (A y4 [.ref x0, .ref v3])) fun _ =>
  B (377, [(0, .ref x0), (4, .int x4), (5, .int x5), (6, .int (Int32.ofInt 0))], [])) (lm_bind (lm_gR 4554 x0) fun v5 =>
  lm_bind (lm_aaR sc v5 (Int32.ofInt 41)) fun v6 =>
  lm_bind (lm_gR 4514 x0) fun v7 =>
  lm_bind (lm_sel [(11, 91)] (some (.ref x0))) fun y8 =>
  lm_bind (lm_asI (A y8 [.ref x0, .ref v6, .ref v7, .int (Int32.ofInt 0), .int x6, .int x5])) fun v9 =>
  lm_bind (lm_sel [(11, 49)] (some (.ref x0))) fun y10 =>
  lm_bind (lm_asI (A y10 [.ref x0, .int v9, .int (Int32.ofInt 3)])) fun v11 =>
  lm_if .ne v11 0 (lm_bind (lm_gR 4554 x0) fun v12 =>
  lm_bind (lm_aaR sc v12 (Int32.ofInt 40)) fun v13 =>
  lm_bind (lm_gR 4554 x0) fun v14 =>
  lm_bind (lm_aaR sc v14 (Int32.ofInt 41)) fun v15 =>
  lm_bind (lm_gR 4554 x0) fun v16 =>
  lm_bind (lm_aaR sc v16 x6) fun v17 =>
  lm_bind (lm_asV (A 92 [.ref v13, .ref v15, .ref v17])) fun _ =>
  B (294, [(0, .ref x0), (4, .int x4), (5, .int x5), (6, .int (x6 + Int32.ofInt 1))], [])) (lm_ret (some (.int (Int32.ofInt 0)))))
set_option maxRecDepth 100000 in
theorem lm_e28_294 {sc : lm_H} {d : Nat} {x0 : Nat} {x4 : Int32} {x5 : Int32} {x6 : Int32} {σ : lm_S} {r : Except Nat lm_R × lm_S} (h : lm_q28_294 sc (lm_cal sc d) (lm_rn sc d lm_m28.2.2.2.2.1 (lm_reg lm_m28.2.2.2.2.2)) x0 x4 x5 x6  σ = some r) : lm_rn sc d lm_m28.2.2.2.2.1 (lm_reg lm_m28.2.2.2.2.2) (294, [(0, .ref x0), (4, .int x4), (5, .int x5), (6, .int x6)], []) σ = some r := lm_rn_of h
/-- LatticeSuiteModel.dsaKeys, from 377 on -/
noncomputable def lm_q28_377 (sc : lm_H) (A : Nat → List Value → lm_M lm_R) (B : lm_F → lm_M lm_R) (x0 : Nat) (x4 : Int32) (x5 : Int32) (x6 : Int32) : lm_M lm_R :=
  lm_if .ge x6 (Int32.ofInt 256) (B (272, [(0, .ref x0), (4, .int x4), (5, .int (x5 + Int32.ofInt 1))], [])) (lm_bind (lm_gR 4554 x0) fun v1 =>
  lm_bind (lm_aaR sc v1 (Int32.ofInt 40)) fun v2 =>
  lm_bind (lm_iald sc v2 x6) fun v3 =>
  lm_bind (lm_gR 4554 x0) fun v4 =>
  lm_bind (lm_gI 4568 x0) fun v5 =>
  lm_bind (lm_aaR sc v4 (v5 + x5)) fun v6 =>
  lm_bind (lm_iald sc v6 x6) fun v7 =>
  lm_when (¬ (Int32.ofInt 8380417) = 0) inferInstance (lm_when (¬ (Int32.ofInt 8192) = 0) inferInstance (lm_if .le (lm_rem (lm_rem ((v3 + v7) + (Int32.ofInt 8380417)) (Int32.ofInt 8380417)) (Int32.ofInt 8192)) (Int32.ofInt 4096) (B (443, [(0, .ref x0), (4, .int x4), (5, .int x5), (6, .int x6), (7, .int (lm_rem ((v3 + v7) + (Int32.ofInt 8380417)) (Int32.ofInt 8380417))), (8, .int (lm_rem (lm_rem ((v3 + v7) + (Int32.ofInt 8380417)) (Int32.ofInt 8380417)) (Int32.ofInt 8192)))], [])) (B (443, [(0, .ref x0), (4, .int x4), (5, .int x5), (6, .int x6), (7, .int (lm_rem ((v3 + v7) + (Int32.ofInt 8380417)) (Int32.ofInt 8380417))), (8, .int ((lm_rem (lm_rem ((v3 + v7) + (Int32.ofInt 8380417)) (Int32.ofInt 8380417)) (Int32.ofInt 8192)) + Int32.ofInt (-8192)))], [])))))
/-- LatticeSuiteModel.dsaKeys, from 443 on -/
noncomputable def lm_q28_443 (sc : lm_H) (A : Nat → List Value → lm_M lm_R) (B : lm_F → lm_M lm_R) (x0 : Nat) (x4 : Int32) (x5 : Int32) (x6 : Int32) (x7 : Int32) (x8 : Int32) : lm_M lm_R :=
  lm_bind (lm_gR 4554 x0) fun v1 =>
  lm_bind (lm_aaR sc v1 ((Int32.ofInt 20) + x5)) fun v2 =>
  lm_bind (lm_iast v2 x6 x8) fun _ =>
  lm_bind (lm_gR 4566 x0) fun v3 =>
  lm_when (¬ (Int32.ofInt 8192) = 0) inferInstance (lm_bind (lm_sel [(11, 74)] (some (.ref x0))) fun y4 =>
  lm_bind (lm_asV (A y4 [.ref x0, .ref v3, .int (Int32.ofInt 0), .int ((x7 - x8) / (Int32.ofInt 8192)), .int (Int32.ofInt 10)])) fun _ =>
  B (377, [(0, .ref x0), (4, .int x4), (5, .int x5), (6, .int (x6 + Int32.ofInt 1))], []))
set_option maxRecDepth 100000 in
theorem lm_e28_443 {sc : lm_H} {d : Nat} {x0 : Nat} {x4 : Int32} {x5 : Int32} {x6 : Int32} {x7 : Int32} {x8 : Int32} {σ : lm_S} {r : Except Nat lm_R × lm_S} (h : lm_q28_443 sc (lm_cal sc d) (lm_rn sc d lm_m28.2.2.2.2.1 (lm_reg lm_m28.2.2.2.2.2)) x0 x4 x5 x6 x7 x8  σ = some r) : lm_rn sc d lm_m28.2.2.2.2.1 (lm_reg lm_m28.2.2.2.2.2) (443, [(0, .ref x0), (4, .int x4), (5, .int x5), (6, .int x6), (7, .int x7), (8, .int x8)], []) σ = some r := lm_rn_of h
/-- LatticeSuiteLaw.dsaSign, from 0 on -/
noncomputable def lm_q29_0 (sc : lm_H) (A : Nat → List Value → lm_M lm_R) (B : lm_F → lm_M lm_R) (x0 : Nat) (x1 : Int32) (x2 : Int32) (x3 : Nat) : lm_M lm_R :=
  lm_bind (lm_sel [(0, 95)] (some (.ref x0))) fun y1 =>
  lm_try (lm_asI (A y1 [.ref x0, .int x1, .int x2])) [(13, 13), (14, 17), (16, 21), (15, 25)] (fun v2 =>
  lm_bind (lm_last x3 (Int32.ofInt 0) (Int32.toInt64 v2)) fun _ =>
  lm_ret (some (.int (Int32.ofInt 0)))) (fun h q => B (h, [], [.ref q]))
set_option maxRecDepth 100000 in
theorem lm_e29_0 {sc : lm_H} {d : Nat} {x0 : Nat} {x1 : Int32} {x2 : Int32} {x3 : Nat} {σ : lm_S} {r : Except Nat lm_R × lm_S} (h : lm_q29_0 sc (lm_cal sc d) (lm_rn sc d lm_m29.2.2.2.2.1 (lm_reg lm_m29.2.2.2.2.2)) x0 x1 x2 x3  σ = some r) : lm_rn sc d lm_m29.2.2.2.2.1 (lm_reg lm_m29.2.2.2.2.2) (0, [(0, .ref x0), (1, .int x1), (2, .int x2), (3, .ref x3)], []) σ = some r := lm_rn_of h
/-- LatticeSuiteLaw.dsaSign, from 13 on -/
noncomputable def lm_q29_13 (sc : lm_H) (A : Nat → List Value → lm_M lm_R) (B : lm_F → lm_M lm_R)  (s0 : Nat) : lm_M lm_R :=
  lm_ret (some (.int (Int32.ofInt 1)))
set_option maxRecDepth 100000 in
theorem lm_e29_13 {sc : lm_H} {d : Nat}  {s0 : Nat} {σ : lm_S} {r : Except Nat lm_R × lm_S} (h : lm_q29_13 sc (lm_cal sc d) (lm_rn sc d lm_m29.2.2.2.2.1 (lm_reg lm_m29.2.2.2.2.2))  s0 σ = some r) : lm_rn sc d lm_m29.2.2.2.2.1 (lm_reg lm_m29.2.2.2.2.2) (13, [], [.ref s0]) σ = some r := lm_rn_of h
/-- LatticeSuiteLaw.dsaSign, from 17 on -/
noncomputable def lm_q29_17 (sc : lm_H) (A : Nat → List Value → lm_M lm_R) (B : lm_F → lm_M lm_R)  (s0 : Nat) : lm_M lm_R :=
  lm_ret (some (.int (Int32.ofInt 2)))
set_option maxRecDepth 100000 in
theorem lm_e29_17 {sc : lm_H} {d : Nat}  {s0 : Nat} {σ : lm_S} {r : Except Nat lm_R × lm_S} (h : lm_q29_17 sc (lm_cal sc d) (lm_rn sc d lm_m29.2.2.2.2.1 (lm_reg lm_m29.2.2.2.2.2))  s0 σ = some r) : lm_rn sc d lm_m29.2.2.2.2.1 (lm_reg lm_m29.2.2.2.2.2) (17, [], [.ref s0]) σ = some r := lm_rn_of h
/-- LatticeSuiteLaw.dsaSign, from 21 on -/
noncomputable def lm_q29_21 (sc : lm_H) (A : Nat → List Value → lm_M lm_R) (B : lm_F → lm_M lm_R)  (s0 : Nat) : lm_M lm_R :=
  lm_ret (some (.int (Int32.ofInt 3)))
set_option maxRecDepth 100000 in
theorem lm_e29_21 {sc : lm_H} {d : Nat}  {s0 : Nat} {σ : lm_S} {r : Except Nat lm_R × lm_S} (h : lm_q29_21 sc (lm_cal sc d) (lm_rn sc d lm_m29.2.2.2.2.1 (lm_reg lm_m29.2.2.2.2.2))  s0 σ = some r) : lm_rn sc d lm_m29.2.2.2.2.1 (lm_reg lm_m29.2.2.2.2.2) (21, [], [.ref s0]) σ = some r := lm_rn_of h
/-- LatticeSuiteLaw.dsaSign, from 25 on -/
noncomputable def lm_q29_25 (sc : lm_H) (A : Nat → List Value → lm_M lm_R) (B : lm_F → lm_M lm_R)  (s0 : Nat) : lm_M lm_R :=
  lm_ret (some (.int (Int32.ofInt 4)))
set_option maxRecDepth 100000 in
theorem lm_e29_25 {sc : lm_H} {d : Nat}  {s0 : Nat} {σ : lm_S} {r : Except Nat lm_R × lm_S} (h : lm_q29_25 sc (lm_cal sc d) (lm_rn sc d lm_m29.2.2.2.2.1 (lm_reg lm_m29.2.2.2.2.2))  s0 σ = some r) : lm_rn sc d lm_m29.2.2.2.2.1 (lm_reg lm_m29.2.2.2.2.2) (25, [], [.ref s0]) σ = some r := lm_rn_of h
/-- LatticeSuiteModel.dsaSign, from 0 on -/
noncomputable def lm_q30_0 (sc : lm_H) (A : Nat → List Value → lm_M lm_R) (B : lm_F → lm_M lm_R) (x0 : Nat) (x1 : Int32) (x2 : Int32) : lm_M lm_R :=
  lm_bind (lm_asI (A 52 [.int x1, .int (Int32.ofInt 0), .int (Int32.ofInt 2)])) fun v1 =>
  lm_if .eq v1 0 (B (24, [(0, .ref x0), (1, .int x1), (2, .int x2)], [.ref x0])) (lm_bind (lm_asI (A 52 [.int x2, .int (Int32.ofInt (-1)), .int (Int32.ofInt 12)])) fun v2 =>
  lm_if .eq v2 0 (B (24, [(0, .ref x0), (1, .int x1), (2, .int x2)], [.ref x0])) (B (25, [(0, .ref x0), (1, .int x1), (2, .int x2)], [.int (Int32.ofInt 1), .ref x0])))
set_option maxRecDepth 100000 in
theorem lm_e30_0 {sc : lm_H} {d : Nat} {x0 : Nat} {x1 : Int32} {x2 : Int32} {σ : lm_S} {r : Except Nat lm_R × lm_S} (h : lm_q30_0 sc (lm_cal sc d) (lm_rn sc d lm_m30.2.2.2.2.1 (lm_reg lm_m30.2.2.2.2.2)) x0 x1 x2  σ = some r) : lm_rn sc d lm_m30.2.2.2.2.1 (lm_reg lm_m30.2.2.2.2.2) (0, [(0, .ref x0), (1, .int x1), (2, .int x2)], []) σ = some r := lm_rn_of h
/-- LatticeSuiteModel.dsaSign, from 24 on -/
noncomputable def lm_q30_24 (sc : lm_H) (A : Nat → List Value → lm_M lm_R) (B : lm_F → lm_M lm_R) (x0 : Nat) (x1 : Int32) (x2 : Int32) (s0 : Nat) : lm_M lm_R :=
  B (25, [(0, .ref x0), (1, .int x1), (2, .int x2)], [.int (Int32.ofInt 0), .ref s0])
set_option maxRecDepth 100000 in
theorem lm_e30_24 {sc : lm_H} {d : Nat} {x0 : Nat} {x1 : Int32} {x2 : Int32} {s0 : Nat} {σ : lm_S} {r : Except Nat lm_R × lm_S} (h : lm_q30_24 sc (lm_cal sc d) (lm_rn sc d lm_m30.2.2.2.2.1 (lm_reg lm_m30.2.2.2.2.2)) x0 x1 x2 s0 σ = some r) : lm_rn sc d lm_m30.2.2.2.2.1 (lm_reg lm_m30.2.2.2.2.2) (24, [(0, .ref x0), (1, .int x1), (2, .int x2)], [.ref s0]) σ = some r := lm_rn_of h
/-- LatticeSuiteModel.dsaSign, from 25 on -/
noncomputable def lm_q30_25 (sc : lm_H) (A : Nat → List Value → lm_M lm_R) (B : lm_F → lm_M lm_R) (x0 : Nat) (x1 : Int32) (x2 : Int32) (s0 : Int32) (s1 : Nat) : lm_M lm_R :=
  lm_bind (lm_sel [(11, 49)] (some (.ref s1))) fun y1 =>
  lm_bind (lm_asI (A y1 [.ref s1, .int s0, .int (Int32.ofInt 1)])) fun v2 =>
  lm_if .ne v2 0 (lm_bind (lm_sel [(11, 86)] (some (.ref x0))) fun y3 =>
  lm_bind (lm_asV (A y3 [.ref x0, .int x1])) fun _ =>
  lm_bind (lm_sel [(11, 96)] (some (.ref x0))) fun y4 =>
  lm_bind (lm_asI (A y4 [.ref x0, .int x2])) fun v5 =>
  lm_if .eq v5 0 (B (72, [(0, .ref x0), (2, .int x2)], [.ref x0])) (lm_bind (lm_gR 4410 x0) fun v6 =>
  lm_bind (lm_iald sc v6 (Int32.ofInt 0)) fun v7 =>
  lm_if .eq v7 (Int32.ofInt 32) (B (68, [(0, .ref x0), (2, .int x2)], [.ref x0])) (lm_bind (lm_gR 4410 x0) fun v8 =>
  lm_bind (lm_iald sc v8 (Int32.ofInt 0)) fun v9 =>
  lm_if .ne v9 0 (B (72, [(0, .ref x0), (2, .int x2)], [.ref x0])) (B (68, [(0, .ref x0), (2, .int x2)], [.ref x0]))))) (lm_ret (some (.int (Int32.ofInt 0))))
set_option maxRecDepth 100000 in
theorem lm_e30_25 {sc : lm_H} {d : Nat} {x0 : Nat} {x1 : Int32} {x2 : Int32} {s0 : Int32} {s1 : Nat} {σ : lm_S} {r : Except Nat lm_R × lm_S} (h : lm_q30_25 sc (lm_cal sc d) (lm_rn sc d lm_m30.2.2.2.2.1 (lm_reg lm_m30.2.2.2.2.2)) x0 x1 x2 s0 s1 σ = some r) : lm_rn sc d lm_m30.2.2.2.2.1 (lm_reg lm_m30.2.2.2.2.2) (25, [(0, .ref x0), (1, .int x1), (2, .int x2)], [.int s0, .ref s1]) σ = some r := lm_rn_of h
/-- LatticeSuiteModel.dsaSign, from 72 on -/
noncomputable def lm_q30_72 (sc : lm_H) (A : Nat → List Value → lm_M lm_R) (B : lm_F → lm_M lm_R) (x0 : Nat) (x2 : Int32) (s0 : Nat) : lm_M lm_R :=
  B (73, [(0, .ref x0), (2, .int x2)], [.int (Int32.ofInt 0), .ref s0])
set_option maxRecDepth 100000 in
theorem lm_e30_72 {sc : lm_H} {d : Nat} {x0 : Nat} {x2 : Int32} {s0 : Nat} {σ : lm_S} {r : Except Nat lm_R × lm_S} (h : lm_q30_72 sc (lm_cal sc d) (lm_rn sc d lm_m30.2.2.2.2.1 (lm_reg lm_m30.2.2.2.2.2)) x0 x2 s0 σ = some r) : lm_rn sc d lm_m30.2.2.2.2.1 (lm_reg lm_m30.2.2.2.2.2) (72, [(0, .ref x0), (2, .int x2)], [.ref s0]) σ = some r := lm_rn_of h
/-- LatticeSuiteModel.dsaSign, from 68 on -/
noncomputable def lm_q30_68 (sc : lm_H) (A : Nat → List Value → lm_M lm_R) (B : lm_F → lm_M lm_R) (x0 : Nat) (x2 : Int32) (s0 : Nat) : lm_M lm_R :=
  B (73, [(0, .ref x0), (2, .int x2)], [.int (Int32.ofInt 1), .ref s0])
set_option maxRecDepth 100000 in
theorem lm_e30_68 {sc : lm_H} {d : Nat} {x0 : Nat} {x2 : Int32} {s0 : Nat} {σ : lm_S} {r : Except Nat lm_R × lm_S} (h : lm_q30_68 sc (lm_cal sc d) (lm_rn sc d lm_m30.2.2.2.2.1 (lm_reg lm_m30.2.2.2.2.2)) x0 x2 s0 σ = some r) : lm_rn sc d lm_m30.2.2.2.2.1 (lm_reg lm_m30.2.2.2.2.2) (68, [(0, .ref x0), (2, .int x2)], [.ref s0]) σ = some r := lm_rn_of h
/-- LatticeSuiteModel.dsaSign, from 73 on -/
noncomputable def lm_q30_73 (sc : lm_H) (A : Nat → List Value → lm_M lm_R) (B : lm_F → lm_M lm_R) (x0 : Nat) (x2 : Int32) (s0 : Int32) (s1 : Nat) : lm_M lm_R :=
  lm_bind (lm_sel [(11, 49)] (some (.ref s1))) fun y1 =>
  lm_bind (lm_asI (A y1 [.ref s1, .int s0, .int (Int32.ofInt 2)])) fun v2 =>
  lm_if .eq v2 0 (lm_ret (some (.int (Int32.ofInt 0)))) (lm_bind (lm_gR 4410 x0) fun v3 =>
  lm_bind (lm_iald sc v3 (Int32.ofInt 2)) fun v4 =>
  lm_bind (lm_sel [(11, 94)] (some (.ref x0))) fun y5 =>
  lm_bind (lm_asI (A y5 [.ref x0])) fun v6 =>
  lm_if .ne v4 v6 (B (99, [(0, .ref x0), (2, .int x2)], [.int (Int32.ofInt 0), .ref x0])) (B (99, [(0, .ref x0), (2, .int x2)], [.int (Int32.ofInt 1), .ref x0])))
set_option maxRecDepth 100000 in
theorem lm_e30_73 {sc : lm_H} {d : Nat} {x0 : Nat} {x2 : Int32} {s0 : Int32} {s1 : Nat} {σ : lm_S} {r : Except Nat lm_R × lm_S} (h : lm_q30_73 sc (lm_cal sc d) (lm_rn sc d lm_m30.2.2.2.2.1 (lm_reg lm_m30.2.2.2.2.2)) x0 x2 s0 s1 σ = some r) : lm_rn sc d lm_m30.2.2.2.2.1 (lm_reg lm_m30.2.2.2.2.2) (73, [(0, .ref x0), (2, .int x2)], [.int s0, .ref s1]) σ = some r := lm_rn_of h
/-- LatticeSuiteModel.dsaSign, from 99 on -/
noncomputable def lm_q30_99 (sc : lm_H) (A : Nat → List Value → lm_M lm_R) (B : lm_F → lm_M lm_R) (x0 : Nat) (x2 : Int32) (s0 : Int32) (s1 : Nat) : lm_M lm_R :=
  lm_bind (lm_sel [(11, 49)] (some (.ref s1))) fun y1 =>
  lm_bind (lm_asI (A y1 [.ref s1, .int s0, .int (Int32.ofInt 3)])) fun v2 =>
  lm_if .ne v2 0 (lm_bind (lm_gR 4406 x0) fun v3 =>
  lm_bind (lm_aaR sc v3 (Int32.ofInt 2)) fun v4 =>
  lm_bind (lm_sel [(11, 97)] (some (.ref x0))) fun y5 =>
  lm_bind (lm_asV (A y5 [.ref x0, .ref v4, .int (Int32.ofInt 64), .int x2])) fun _ =>
  lm_bind (lm_sel [(11, 61)] (some (.ref x0))) fun y6 =>
  lm_bind (lm_asV (A y6 [.ref x0, .int (Int32.ofInt 12)])) fun _ =>
  lm_bind (lm_gR 4406 x0) fun v7 =>
  lm_bind (lm_aaR sc v7 (Int32.ofInt 2)) fun v8 =>
  lm_bind (lm_sel [(11, 62)] (some (.ref x0))) fun y9 =>
  lm_bind (lm_asV (A y9 [.ref x0, .ref v8, .int (Int32.ofInt 32), .int (Int32.ofInt 32)])) fun _ =>
  B (143, [(0, .ref x0), (3, .int (Int32.ofInt 0))], [])) (lm_ret (some (.int (Int32.ofInt 0))))
set_option maxRecDepth 100000 in
theorem lm_e30_99 {sc : lm_H} {d : Nat} {x0 : Nat} {x2 : Int32} {s0 : Int32} {s1 : Nat} {σ : lm_S} {r : Except Nat lm_R × lm_S} (h : lm_q30_99 sc (lm_cal sc d) (lm_rn sc d lm_m30.2.2.2.2.1 (lm_reg lm_m30.2.2.2.2.2)) x0 x2 s0 s1 σ = some r) : lm_rn sc d lm_m30.2.2.2.2.1 (lm_reg lm_m30.2.2.2.2.2) (99, [(0, .ref x0), (2, .int x2)], [.int s0, .ref s1]) σ = some r := lm_rn_of h
/-- LatticeSuiteModel.dsaSign, from 143 on -/
noncomputable def lm_q30_143 (sc : lm_H) (A : Nat → List Value → lm_M lm_R) (B : lm_F → lm_M lm_R) (x0 : Nat) (x3 : Int32) : lm_M lm_R :=
  lm_if .ge x3 (Int32.ofInt 32) (lm_bind (lm_gR 4606 x0) fun v1 =>
  lm_bind (lm_sel [(11, 62)] (some (.ref x0))) fun y2 =>
  lm_bind (lm_asV (A y2 [.ref x0, .ref v1, .int (Int32.ofInt 0), .int (Int32.ofInt 64)])) fun _ =>
  lm_bind (lm_gR 4610 x0) fun v3 =>
  lm_bind (lm_sel [(11, 63)] (some (.ref x0))) fun y4 =>
  lm_bind (lm_asV (A y4 [.ref x0, .ref v3, .int (Int32.ofInt 0), .int (Int32.ofInt 64)])) fun _ =>
  lm_bind (lm_gI 4572 x0) fun v5 =>
  lm_if .ne v5 (Int32.ofInt 2) (B (215, [(0, .ref x0)], [.int (Int32.ofInt 4)])) (B (215, [(0, .ref x0)], [.int (Int32.ofInt 3)]))) (lm_bind (lm_gR 4410 x0) fun v6 =>
  lm_bind (lm_iald sc v6 (Int32.ofInt 0)) fun v7 =>
  lm_if .ne v7 0 (lm_bind (lm_gR 4406 x0) fun v8 =>
  lm_bind (lm_aaR sc v8 (Int32.ofInt 0)) fun v9 =>
  lm_bind (lm_bald sc v9 x3) fun v10 =>
  B (171, [(0, .ref x0), (3, .int x3)], [.int v10, .ref x0])) (B (171, [(0, .ref x0), (3, .int x3)], [.int (Int32.ofInt 0), .ref x0])))
set_option maxRecDepth 100000 in
theorem lm_e30_143 {sc : lm_H} {d : Nat} {x0 : Nat} {x3 : Int32} {σ : lm_S} {r : Except Nat lm_R × lm_S} (h : lm_q30_143 sc (lm_cal sc d) (lm_rn sc d lm_m30.2.2.2.2.1 (lm_reg lm_m30.2.2.2.2.2)) x0 x3  σ = some r) : lm_rn sc d lm_m30.2.2.2.2.1 (lm_reg lm_m30.2.2.2.2.2) (143, [(0, .ref x0), (3, .int x3)], []) σ = some r := lm_rn_of h
/-- LatticeSuiteModel.dsaSign, from 215 on -/
noncomputable def lm_q30_215 (sc : lm_H) (A : Nat → List Value → lm_M lm_R) (B : lm_F → lm_M lm_R) (x0 : Nat) (s0 : Int32) : lm_M lm_R :=
  lm_bind (lm_putf 4496 x0 (.int (Int32.ofInt 0))) fun _ =>
  B (224, [(0, .ref x0), (3, .int s0), (4, .int (Int32.ofInt 0))], [])
set_option maxRecDepth 100000 in
theorem lm_e30_215 {sc : lm_H} {d : Nat} {x0 : Nat} {s0 : Int32} {σ : lm_S} {r : Except Nat lm_R × lm_S} (h : lm_q30_215 sc (lm_cal sc d) (lm_rn sc d lm_m30.2.2.2.2.1 (lm_reg lm_m30.2.2.2.2.2)) x0 s0 σ = some r) : lm_rn sc d lm_m30.2.2.2.2.1 (lm_reg lm_m30.2.2.2.2.2) (215, [(0, .ref x0)], [.int s0]) σ = some r := lm_rn_of h
/-- LatticeSuiteModel.dsaSign, from 171 on -/
noncomputable def lm_q30_171 (sc : lm_H) (A : Nat → List Value → lm_M lm_R) (B : lm_F → lm_M lm_R) (x0 : Nat) (x3 : Int32) (s0 : Int32) (s1 : Nat) : lm_M lm_R :=
  lm_bind (lm_sel [(11, 69)] (some (.ref s1))) fun y1 =>
  lm_bind (lm_asV (A y1 [.ref s1, .int s0])) fun _ =>
  B (143, [(0, .ref x0), (3, .int (x3 + Int32.ofInt 1))], [])
set_option maxRecDepth 100000 in
theorem lm_e30_171 {sc : lm_H} {d : Nat} {x0 : Nat} {x3 : Int32} {s0 : Int32} {s1 : Nat} {σ : lm_S} {r : Except Nat lm_R × lm_S} (h : lm_q30_171 sc (lm_cal sc d) (lm_rn sc d lm_m30.2.2.2.2.1 (lm_reg lm_m30.2.2.2.2.2)) x0 x3 s0 s1 σ = some r) : lm_rn sc d lm_m30.2.2.2.2.1 (lm_reg lm_m30.2.2.2.2.2) (171, [(0, .ref x0), (3, .int x3)], [.int s0, .ref s1]) σ = some r := lm_rn_of h
/-- LatticeSuiteModel.dsaSign, from 224 on -/
noncomputable def lm_q30_224 (sc : lm_H) (A : Nat → List Value → lm_M lm_R) (B : lm_F → lm_M lm_R) (x0 : Nat) (x3 : Int32) (x4 : Int32) : lm_M lm_R :=
  lm_bind (lm_gI 4568 x0) fun v1 =>
  lm_bind (lm_gI 4528 x0) fun v2 =>
  lm_if .ge x4 (v1 + v2) (B (272, [(0, .ref x0), (4, .int (Int32.ofInt 0))], [])) (lm_bind (lm_gR 4406 x0) fun v3 =>
  lm_bind (lm_aaR sc v3 (Int32.ofInt 2)) fun v4 =>
  lm_bind (lm_gR 4554 x0) fun v5 =>
  lm_bind (lm_aaR sc v5 x4) fun v6 =>
  lm_bind (lm_gI 4572 x0) fun v7 =>
  lm_bind (lm_sel [(11, 98)] (some (.ref x0))) fun y8 =>
  lm_bind (lm_asV (A y8 [.ref x0, .ref v4, .int (Int32.ofInt 128), .ref v6, .int v7, .int x3])) fun _ =>
  B (224, [(0, .ref x0), (3, .int x3), (4, .int (x4 + Int32.ofInt 1))], []))
set_option maxRecDepth 100000 in
theorem lm_e30_224 {sc : lm_H} {d : Nat} {x0 : Nat} {x3 : Int32} {x4 : Int32} {σ : lm_S} {r : Except Nat lm_R × lm_S} (h : lm_q30_224 sc (lm_cal sc d) (lm_rn sc d lm_m30.2.2.2.2.1 (lm_reg lm_m30.2.2.2.2.2)) x0 x3 x4  σ = some r) : lm_rn sc d lm_m30.2.2.2.2.1 (lm_reg lm_m30.2.2.2.2.2) (224, [(0, .ref x0), (3, .int x3), (4, .int x4)], []) σ = some r := lm_rn_of h
/-- LatticeSuiteModel.dsaSign, from 272 on -/
noncomputable def lm_q30_272 (sc : lm_H) (A : Nat → List Value → lm_M lm_R) (B : lm_F → lm_M lm_R) (x0 : Nat) (x4 : Int32) : lm_M lm_R :=
  lm_bind (lm_gI 4528 x0) fun v1 =>
  lm_if .ge x4 v1 (B (318, [(0, .ref x0), (4, .int (Int32.ofInt 0))], [])) (lm_bind (lm_gR 4406 x0) fun v2 =>
  lm_bind (lm_aaR sc v2 (Int32.ofInt 2)) fun v3 =>
  lm_bind (lm_gR 4554 x0) fun v4 =>
  lm_bind (lm_aaR sc v4 ((Int32.ofInt 15) + x4)) fun v5 =>
  lm_bind (lm_sel [(11, 98)] (some (.ref x0))) fun y6 =>
  lm_bind (lm_asV (A y6 [.ref x0, .ref v3, .int (Int32.ofInt 128), .ref v5, .int (Int32.ofInt 4096), .int (Int32.ofInt 13)])) fun _ =>
  B (272, [(0, .ref x0), (4, .int (x4 + Int32.ofInt 1))], []))
set_option maxRecDepth 100000 in
theorem lm_e30_272 {sc : lm_H} {d : Nat} {x0 : Nat} {x4 : Int32} {σ : lm_S} {r : Except Nat lm_R × lm_S} (h : lm_q30_272 sc (lm_cal sc d) (lm_rn sc d lm_m30.2.2.2.2.1 (lm_reg lm_m30.2.2.2.2.2)) x0 x4  σ = some r) : lm_rn sc d lm_m30.2.2.2.2.1 (lm_reg lm_m30.2.2.2.2.2) (272, [(0, .ref x0), (4, .int x4)], []) σ = some r := lm_rn_of h
/-- LatticeSuiteModel.dsaSign, from 318 on -/
noncomputable def lm_q30_318 (sc : lm_H) (A : Nat → List Value → lm_M lm_R) (B : lm_F → lm_M lm_R) (x0 : Nat) (x4 : Int32) : lm_M lm_R :=
  lm_if .ge x4 (Int32.ofInt 814) (lm_bind (lm_sel [(11, 49)] (some (.ref x0))) fun y1 =>
  lm_bind (lm_asI (A y1 [.ref x0, .int (Int32.ofInt 0), .int (Int32.ofInt 4)])) fun v2 =>
  lm_ret (some (.int (Int32.ofInt 0)))) (lm_bind (lm_gI 4568 x0) fun v3 =>
  lm_bind (lm_sel [(11, 99)] (some (.ref x0))) fun y4 =>
  lm_bind (lm_asI (A y4 [.ref x0, .int (x4 * v3)])) fun v5 =>
  lm_if .lt v5 0 (B (350, [(0, .ref x0), (4, .int x4), (5, .int v5)], [.int (Int32.ofInt 0), .ref x0])) (B (350, [(0, .ref x0), (4, .int x4), (5, .int v5)], [.int (Int32.ofInt 1), .ref x0])))
set_option maxRecDepth 100000 in
theorem lm_e30_318 {sc : lm_H} {d : Nat} {x0 : Nat} {x4 : Int32} {σ : lm_S} {r : Except Nat lm_R × lm_S} (h : lm_q30_318 sc (lm_cal sc d) (lm_rn sc d lm_m30.2.2.2.2.1 (lm_reg lm_m30.2.2.2.2.2)) x0 x4  σ = some r) : lm_rn sc d lm_m30.2.2.2.2.1 (lm_reg lm_m30.2.2.2.2.2) (318, [(0, .ref x0), (4, .int x4)], []) σ = some r := lm_rn_of h
/-- LatticeSuiteModel.dsaSign, from 350 on -/
noncomputable def lm_q30_350 (sc : lm_H) (A : Nat → List Value → lm_M lm_R) (B : lm_F → lm_M lm_R) (x0 : Nat) (x4 : Int32) (x5 : Int32) (s0 : Int32) (s1 : Nat) : lm_M lm_R :=
  lm_bind (lm_sel [(11, 49)] (some (.ref s1))) fun y1 =>
  lm_bind (lm_asI (A y1 [.ref s1, .int s0, .int (Int32.ofInt 4)])) fun v2 =>
  lm_if .ne v2 0 (lm_if .ne x5 (Int32.ofInt 1) (B (318, [(0, .ref x0), (4, .int (x4 + Int32.ofInt 1))], [])) (lm_bind (lm_gR 4410 x0) fun v3 =>
  lm_bind (lm_gI 4592 x0) fun v4 =>
  lm_bind (lm_gI 4568 x0) fun v5 =>
  lm_bind (lm_gI 4596 x0) fun v6 =>
  lm_bind (lm_gI 4588 x0) fun v7 =>
  lm_bind (lm_gI 4528 x0) fun v8 =>
  lm_bind (lm_iast v3 (Int32.ofInt 5) (((v4 + (((Int32.ofInt 32) * v5) * v6)) + v7) + v8)) fun _ =>
  lm_bind (lm_gR 4566 x0) fun v9 =>
  lm_bind (lm_gR 4406 x0) fun v10 =>
  lm_bind (lm_aaR sc v10 (Int32.ofInt 5)) fun v11 =>
  lm_bind (lm_gR 4410 x0) fun v12 =>
  lm_bind (lm_iald sc v12 (Int32.ofInt 5)) fun v13 =>
  lm_bind (lm_asV (A 75 [.ref v9, .int (Int32.ofInt 0), .ref v11, .int (Int32.ofInt 0), .int v13])) fun _ =>
  lm_ret (some (.int (x4 + (Int32.ofInt 1)))))) (lm_ret (some (.int (Int32.ofInt 0))))
set_option maxRecDepth 100000 in
theorem lm_e30_350 {sc : lm_H} {d : Nat} {x0 : Nat} {x4 : Int32} {x5 : Int32} {s0 : Int32} {s1 : Nat} {σ : lm_S} {r : Except Nat lm_R × lm_S} (h : lm_q30_350 sc (lm_cal sc d) (lm_rn sc d lm_m30.2.2.2.2.1 (lm_reg lm_m30.2.2.2.2.2)) x0 x4 x5 s0 s1 σ = some r) : lm_rn sc d lm_m30.2.2.2.2.1 (lm_reg lm_m30.2.2.2.2.2) (350, [(0, .ref x0), (4, .int x4), (5, .int x5)], [.int s0, .ref s1]) σ = some r := lm_rn_of h
/-- LatticeSuiteLaw.dsaVerify, from 0 on -/
noncomputable def lm_q31_0 (sc : lm_H) (A : Nat → List Value → lm_M lm_R) (B : lm_F → lm_M lm_R) (x0 : Nat) (x1 : Int32) (x2 : Int32) (x3 : Nat) : lm_M lm_R :=
  lm_bind (lm_sel [(0, 100)] (some (.ref x0))) fun y1 =>
  lm_try (lm_asI (A y1 [.ref x0, .int x1, .int x2])) [(13, 20), (14, 24), (16, 28), (15, 32)] (fun v2 =>
  lm_if .eq v2 0 (B (16, [], [.long (Int64.ofNat 0), .int (Int32.ofInt 0), .ref x3])) (B (16, [], [.long (Int64.ofNat 1), .int (Int32.ofInt 0), .ref x3]))) (fun h q => B (h, [], [.ref q]))
set_option maxRecDepth 100000 in
theorem lm_e31_0 {sc : lm_H} {d : Nat} {x0 : Nat} {x1 : Int32} {x2 : Int32} {x3 : Nat} {σ : lm_S} {r : Except Nat lm_R × lm_S} (h : lm_q31_0 sc (lm_cal sc d) (lm_rn sc d lm_m31.2.2.2.2.1 (lm_reg lm_m31.2.2.2.2.2)) x0 x1 x2 x3  σ = some r) : lm_rn sc d lm_m31.2.2.2.2.1 (lm_reg lm_m31.2.2.2.2.2) (0, [(0, .ref x0), (1, .int x1), (2, .int x2), (3, .ref x3)], []) σ = some r := lm_rn_of h
/-- LatticeSuiteLaw.dsaVerify, from 16 on -/
noncomputable def lm_q31_16 (sc : lm_H) (A : Nat → List Value → lm_M lm_R) (B : lm_F → lm_M lm_R)  (s0 : Int64) (s1 : Int32) (s2 : Nat) : lm_M lm_R :=
  lm_bind (lm_last s2 s1 s0) fun _ =>
  lm_ret (some (.int (Int32.ofInt 0)))
set_option maxRecDepth 100000 in
theorem lm_e31_16 {sc : lm_H} {d : Nat}  {s0 : Int64} {s1 : Int32} {s2 : Nat} {σ : lm_S} {r : Except Nat lm_R × lm_S} (h : lm_q31_16 sc (lm_cal sc d) (lm_rn sc d lm_m31.2.2.2.2.1 (lm_reg lm_m31.2.2.2.2.2))  s0 s1 s2 σ = some r) : lm_rn sc d lm_m31.2.2.2.2.1 (lm_reg lm_m31.2.2.2.2.2) (16, [], [.long s0, .int s1, .ref s2]) σ = some r := lm_rn_of h
/-- LatticeSuiteLaw.dsaVerify, from 20 on -/
noncomputable def lm_q31_20 (sc : lm_H) (A : Nat → List Value → lm_M lm_R) (B : lm_F → lm_M lm_R)  (s0 : Nat) : lm_M lm_R :=
  lm_ret (some (.int (Int32.ofInt 1)))
set_option maxRecDepth 100000 in
theorem lm_e31_20 {sc : lm_H} {d : Nat}  {s0 : Nat} {σ : lm_S} {r : Except Nat lm_R × lm_S} (h : lm_q31_20 sc (lm_cal sc d) (lm_rn sc d lm_m31.2.2.2.2.1 (lm_reg lm_m31.2.2.2.2.2))  s0 σ = some r) : lm_rn sc d lm_m31.2.2.2.2.1 (lm_reg lm_m31.2.2.2.2.2) (20, [], [.ref s0]) σ = some r := lm_rn_of h
/-- LatticeSuiteLaw.dsaVerify, from 24 on -/
noncomputable def lm_q31_24 (sc : lm_H) (A : Nat → List Value → lm_M lm_R) (B : lm_F → lm_M lm_R)  (s0 : Nat) : lm_M lm_R :=
  lm_ret (some (.int (Int32.ofInt 2)))
set_option maxRecDepth 100000 in
theorem lm_e31_24 {sc : lm_H} {d : Nat}  {s0 : Nat} {σ : lm_S} {r : Except Nat lm_R × lm_S} (h : lm_q31_24 sc (lm_cal sc d) (lm_rn sc d lm_m31.2.2.2.2.1 (lm_reg lm_m31.2.2.2.2.2))  s0 σ = some r) : lm_rn sc d lm_m31.2.2.2.2.1 (lm_reg lm_m31.2.2.2.2.2) (24, [], [.ref s0]) σ = some r := lm_rn_of h
/-- LatticeSuiteLaw.dsaVerify, from 28 on -/
noncomputable def lm_q31_28 (sc : lm_H) (A : Nat → List Value → lm_M lm_R) (B : lm_F → lm_M lm_R)  (s0 : Nat) : lm_M lm_R :=
  lm_ret (some (.int (Int32.ofInt 3)))
set_option maxRecDepth 100000 in
theorem lm_e31_28 {sc : lm_H} {d : Nat}  {s0 : Nat} {σ : lm_S} {r : Except Nat lm_R × lm_S} (h : lm_q31_28 sc (lm_cal sc d) (lm_rn sc d lm_m31.2.2.2.2.1 (lm_reg lm_m31.2.2.2.2.2))  s0 σ = some r) : lm_rn sc d lm_m31.2.2.2.2.1 (lm_reg lm_m31.2.2.2.2.2) (28, [], [.ref s0]) σ = some r := lm_rn_of h
/-- LatticeSuiteLaw.dsaVerify, from 32 on -/
noncomputable def lm_q31_32 (sc : lm_H) (A : Nat → List Value → lm_M lm_R) (B : lm_F → lm_M lm_R)  (s0 : Nat) : lm_M lm_R :=
  lm_ret (some (.int (Int32.ofInt 4)))
set_option maxRecDepth 100000 in
theorem lm_e31_32 {sc : lm_H} {d : Nat}  {s0 : Nat} {σ : lm_S} {r : Except Nat lm_R × lm_S} (h : lm_q31_32 sc (lm_cal sc d) (lm_rn sc d lm_m31.2.2.2.2.1 (lm_reg lm_m31.2.2.2.2.2))  s0 σ = some r) : lm_rn sc d lm_m31.2.2.2.2.1 (lm_reg lm_m31.2.2.2.2.2) (32, [], [.ref s0]) σ = some r := lm_rn_of h
/-- LatticeSuiteModel.dsaVerify, from 0 on -/
noncomputable def lm_q32_0 (sc : lm_H) (A : Nat → List Value → lm_M lm_R) (B : lm_F → lm_M lm_R) (x0 : Nat) (x1 : Int32) (x2 : Int32) : lm_M lm_R :=
  lm_bind (lm_asI (A 52 [.int x1, .int (Int32.ofInt 0), .int (Int32.ofInt 2)])) fun v1 =>
  lm_if .eq v1 0 (B (24, [(0, .ref x0), (1, .int x1), (2, .int x2)], [.ref x0])) (lm_bind (lm_asI (A 52 [.int x2, .int (Int32.ofInt (-1)), .int (Int32.ofInt 12)])) fun v2 =>
  lm_if .eq v2 0 (B (24, [(0, .ref x0), (1, .int x1), (2, .int x2)], [.ref x0])) (B (25, [(0, .ref x0), (1, .int x1), (2, .int x2)], [.int (Int32.ofInt 1), .ref x0])))
set_option maxRecDepth 100000 in
theorem lm_e32_0 {sc : lm_H} {d : Nat} {x0 : Nat} {x1 : Int32} {x2 : Int32} {σ : lm_S} {r : Except Nat lm_R × lm_S} (h : lm_q32_0 sc (lm_cal sc d) (lm_rn sc d lm_m32.2.2.2.2.1 (lm_reg lm_m32.2.2.2.2.2)) x0 x1 x2  σ = some r) : lm_rn sc d lm_m32.2.2.2.2.1 (lm_reg lm_m32.2.2.2.2.2) (0, [(0, .ref x0), (1, .int x1), (2, .int x2)], []) σ = some r := lm_rn_of h
/-- LatticeSuiteModel.dsaVerify, from 24 on -/
noncomputable def lm_q32_24 (sc : lm_H) (A : Nat → List Value → lm_M lm_R) (B : lm_F → lm_M lm_R) (x0 : Nat) (x1 : Int32) (x2 : Int32) (s0 : Nat) : lm_M lm_R :=
  B (25, [(0, .ref x0), (1, .int x1), (2, .int x2)], [.int (Int32.ofInt 0), .ref s0])
set_option maxRecDepth 100000 in
theorem lm_e32_24 {sc : lm_H} {d : Nat} {x0 : Nat} {x1 : Int32} {x2 : Int32} {s0 : Nat} {σ : lm_S} {r : Except Nat lm_R × lm_S} (h : lm_q32_24 sc (lm_cal sc d) (lm_rn sc d lm_m32.2.2.2.2.1 (lm_reg lm_m32.2.2.2.2.2)) x0 x1 x2 s0 σ = some r) : lm_rn sc d lm_m32.2.2.2.2.1 (lm_reg lm_m32.2.2.2.2.2) (24, [(0, .ref x0), (1, .int x1), (2, .int x2)], [.ref s0]) σ = some r := lm_rn_of h
/-- LatticeSuiteModel.dsaVerify, from 25 on -/
noncomputable def lm_q32_25 (sc : lm_H) (A : Nat → List Value → lm_M lm_R) (B : lm_F → lm_M lm_R) (x0 : Nat) (x1 : Int32) (x2 : Int32) (s0 : Int32) (s1 : Nat) : lm_M lm_R :=
  lm_bind (lm_sel [(11, 49)] (some (.ref s1))) fun y1 =>
  lm_bind (lm_asI (A y1 [.ref s1, .int s0, .int (Int32.ofInt 1)])) fun v2 =>
  lm_if .ne v2 0 (lm_bind (lm_sel [(11, 86)] (some (.ref x0))) fun y3 =>
  lm_bind (lm_asV (A y3 [.ref x0, .int x1])) fun _ =>
  lm_bind (lm_sel [(11, 96)] (some (.ref x0))) fun y4 =>
  lm_bind (lm_asI (A y4 [.ref x0, .int x2])) fun v5 =>
  lm_bind (lm_sel [(11, 49)] (some (.ref x0))) fun y6 =>
  lm_bind (lm_asI (A y6 [.ref x0, .int v5, .int (Int32.ofInt 2)])) fun v7 =>
  lm_if .eq v7 0 (lm_when ((Int32.ofInt 0) = 0 ∨ (Int32.ofInt 0) = 1) inferInstance (lm_ret (some (.int (Int32.ofInt 0))))) (lm_bind (lm_gR 4410 x0) fun v8 =>
  lm_bind (lm_iald sc v8 (Int32.ofInt 1)) fun v9 =>
  lm_bind (lm_gI 4528 x0) fun v10 =>
  lm_if .ne v9 ((Int32.ofInt 32) + ((Int32.ofInt 320) * v10)) (B (78, [(0, .ref x0), (2, .int x2)], [.int (Int32.ofInt 0), .ref x0])) (B (78, [(0, .ref x0), (2, .int x2)], [.int (Int32.ofInt 1), .ref x0])))) (lm_when ((Int32.ofInt 0) = 0 ∨ (Int32.ofInt 0) = 1) inferInstance (lm_ret (some (.int (Int32.ofInt 0)))))
set_option maxRecDepth 100000 in
theorem lm_e32_25 {sc : lm_H} {d : Nat} {x0 : Nat} {x1 : Int32} {x2 : Int32} {s0 : Int32} {s1 : Nat} {σ : lm_S} {r : Except Nat lm_R × lm_S} (h : lm_q32_25 sc (lm_cal sc d) (lm_rn sc d lm_m32.2.2.2.2.1 (lm_reg lm_m32.2.2.2.2.2)) x0 x1 x2 s0 s1 σ = some r) : lm_rn sc d lm_m32.2.2.2.2.1 (lm_reg lm_m32.2.2.2.2.2) (25, [(0, .ref x0), (1, .int x1), (2, .int x2)], [.int s0, .ref s1]) σ = some r := lm_rn_of h
/-- LatticeSuiteModel.dsaVerify, from 78 on -/
noncomputable def lm_q32_78 (sc : lm_H) (A : Nat → List Value → lm_M lm_R) (B : lm_F → lm_M lm_R) (x0 : Nat) (x2 : Int32) (s0 : Int32) (s1 : Nat) : lm_M lm_R :=
  lm_bind (lm_sel [(11, 49)] (some (.ref s1))) fun y1 =>
  lm_bind (lm_asI (A y1 [.ref s1, .int s0, .int (Int32.ofInt 3)])) fun v2 =>
  lm_if .ne v2 0 (lm_bind (lm_gI 4592 x0) fun v3 =>
  lm_bind (lm_gI 4568 x0) fun v4 =>
  lm_bind (lm_gI 4596 x0) fun v5 =>
  lm_bind (lm_gR 4410 x0) fun v6 =>
  lm_bind (lm_iald sc v6 (Int32.ofInt 5)) fun v7 =>
  lm_bind (lm_gI 4588 x0) fun v8 =>
  lm_bind (lm_gI 4528 x0) fun v9 =>
  lm_if .ne v7 (((v3 + (((Int32.ofInt 32) * v4) * v5)) + v8) + v9) (lm_when ((Int32.ofInt 0) = 0 ∨ (Int32.ofInt 0) = 1) inferInstance (lm_ret (some (.int (Int32.ofInt 0))))) (lm_bind (lm_gR 4406 x0) fun v10 =>
  lm_bind (lm_aaR sc v10 (Int32.ofInt 5)) fun v11 =>
  lm_bind (lm_sel [(11, 101)] (some (.ref x0))) fun y12 =>
  lm_bind (lm_asI (A y12 [.ref x0, .ref v11, .int (v3 + (((Int32.ofInt 32) * v4) * v5))])) fun v13 =>
  lm_if .ne v13 0 (lm_bind (lm_putf 4496 x0 (.int (Int32.ofInt 0))) fun _ =>
  B (149, [(0, .ref x0), (2, .int x2), (4, .int (Int32.ofInt 0))], [])) (lm_when ((Int32.ofInt 0) = 0 ∨ (Int32.ofInt 0) = 1) inferInstance (lm_ret (some (.int (Int32.ofInt 0))))))) (lm_when ((Int32.ofInt 0) = 0 ∨ (Int32.ofInt 0) = 1) inferInstance (lm_ret (some (.int (Int32.ofInt 0)))))
set_option maxRecDepth 100000 in
theorem lm_e32_78 {sc : lm_H} {d : Nat} {x0 : Nat} {x2 : Int32} {s0 : Int32} {s1 : Nat} {σ : lm_S} {r : Except Nat lm_R × lm_S} (h : lm_q32_78 sc (lm_cal sc d) (lm_rn sc d lm_m32.2.2.2.2.1 (lm_reg lm_m32.2.2.2.2.2)) x0 x2 s0 s1 σ = some r) : lm_rn sc d lm_m32.2.2.2.2.1 (lm_reg lm_m32.2.2.2.2.2) (78, [(0, .ref x0), (2, .int x2)], [.int s0, .ref s1]) σ = some r := lm_rn_of h
/-- LatticeSuiteModel.dsaVerify, from 149 on -/
noncomputable def lm_q32_149 (sc : lm_H) (A : Nat → List Value → lm_M lm_R) (B : lm_F → lm_M lm_R) (x0 : Nat) (x2 : Int32) (x4 : Int32) : lm_M lm_R :=
  lm_bind (lm_gI 4568 x0) fun v1 =>
  lm_if .ge x4 v1 (lm_bind (lm_sel [(11, 61)] (some (.ref x0))) fun y2 =>
  lm_bind (lm_asV (A y2 [.ref x0, .int (Int32.ofInt 12)])) fun _ =>
  lm_bind (lm_gR 4406 x0) fun v3 =>
  lm_bind (lm_aaR sc v3 (Int32.ofInt 1)) fun v4 =>
  lm_bind (lm_gR 4410 x0) fun v5 =>
  lm_bind (lm_iald sc v5 (Int32.ofInt 1)) fun v6 =>
  lm_bind (lm_sel [(11, 62)] (some (.ref x0))) fun y7 =>
  lm_bind (lm_asV (A y7 [.ref x0, .ref v4, .int (Int32.ofInt 0), .int v6])) fun _ =>
  lm_bind (lm_gR 4610 x0) fun v8 =>
  lm_bind (lm_sel [(11, 63)] (some (.ref x0))) fun y9 =>
  lm_bind (lm_asV (A y9 [.ref x0, .ref v8, .int (Int32.ofInt 0), .int (Int32.ofInt 64)])) fun _ =>
  lm_bind (lm_gR 4610 x0) fun v10 =>
  lm_bind (lm_sel [(11, 97)] (some (.ref x0))) fun y11 =>
  lm_bind (lm_asV (A y11 [.ref x0, .ref v10, .int (Int32.ofInt 0), .int x2])) fun _ =>
  lm_bind (lm_gR 4554 x0) fun v12 =>
  lm_bind (lm_aaR sc v12 (Int32.ofInt 46)) fun v13 =>
  lm_bind (lm_gR 4406 x0) fun v14 =>
  lm_bind (lm_aaR sc v14 (Int32.ofInt 5)) fun v15 =>
  lm_bind (lm_sel [(11, 102)] (some (.ref x0))) fun y16 =>
  lm_bind (lm_asI (A y16 [.ref x0, .ref v13, .ref v15, .int (Int32.ofInt 0)])) fun v17 =>
  lm_bind (lm_sel [(11, 49)] (some (.ref x0))) fun y18 =>
  lm_bind (lm_asI (A y18 [.ref x0, .int v17, .int (Int32.ofInt 4)])) fun v19 =>
  lm_if .ne v19 0 (lm_bind (lm_gR 4554 x0) fun v20 =>
  lm_bind (lm_aaR sc v20 (Int32.ofInt 46)) fun v21 =>
  lm_bind (lm_asV (A 89 [.ref v21])) fun _ =>
  lm_bind (lm_gR 4554 x0) fun v22 =>
  lm_bind (lm_aaR sc v22 (Int32.ofInt 46)) fun v23 =>
  lm_bind (lm_sel [(11, 90)] (some (.ref x0))) fun y24 =>
  lm_bind (lm_asV (A y24 [.ref x0, .ref v23])) fun _ =>
  B (362, [(0, .ref x0), (4, .int (Int32.ofInt 0))], [])) (lm_when ((Int32.ofInt 0) = 0 ∨ (Int32.ofInt 0) = 1) inferInstance (lm_ret (some (.int (Int32.ofInt 0)))))) (lm_bind (lm_gR 4406 x0) fun v25 =>
  lm_bind (lm_aaR sc v25 (Int32.ofInt 5)) fun v26 =>
  lm_bind (lm_gI 4592 x0) fun v27 =>
  lm_bind (lm_gR 4554 x0) fun v28 =>
  lm_bind (lm_aaR sc v28 x4) fun v29 =>
  lm_bind (lm_gI 4580 x0) fun v30 =>
  lm_bind (lm_gI 4596 x0) fun v31 =>
  lm_bind (lm_sel [(11, 98)] (some (.ref x0))) fun y32 =>
  lm_bind (lm_asV (A y32 [.ref x0, .ref v26, .int v27, .ref v29, .int v30, .int v31])) fun _ =>
  B (190, [(0, .ref x0), (2, .int x2), (4, .int x4), (5, .int (Int32.ofInt 0))], []))
set_option maxRecDepth 100000 in
theorem lm_e32_149 {sc : lm_H} {d : Nat} {x0 : Nat} {x2 : Int32} {x4 : Int32} {σ : lm_S} {r : Except Nat lm_R × lm_S} (h : lm_q32_149 sc (lm_cal sc d) (lm_rn sc d lm_m32.2.2.2.2.1 (lm_reg lm_m32.2.2.2.2.2)) x0 x2 x4  σ = some r) : lm_rn sc d lm_m32.2.2.2.2.1 (lm_reg lm_m32.2.2.2.2.2) (149, [(0, .ref x0), (2, .int x2), (4, .int x4)], []) σ = some r := lm_rn_of h
/-- LatticeSuiteModel.dsaVerify, from 362 on -/
noncomputable def lm_q32_362 (sc : lm_H) (A : Nat → List Value → lm_M lm_R) (B : lm_F → lm_M lm_R) (x0 : Nat) (x4 : Int32) : lm_M lm_R :=
  lm_bind (lm_gI 4568 x0) fun v1 =>
  lm_if .ge x4 v1 (lm_bind (lm_putf 4496 x0 (.int (Int32.ofInt 0))) fun _ =>
  B (406, [(0, .ref x0), (4, .int (Int32.ofInt 0))], [])) (lm_bind (lm_gR 4554 x0) fun v2 =>
  lm_bind (lm_aaR sc v2 x4) fun v3 =>
  lm_bind (lm_asV (A 89 [.ref v3])) fun _ =>
  lm_bind (lm_gR 4554 x0) fun v4 =>
  lm_bind (lm_aaR sc v4 x4) fun v5 =>
  lm_bind (lm_sel [(11, 90)] (some (.ref x0))) fun y6 =>
  lm_bind (lm_asV (A y6 [.ref x0, .ref v5])) fun _ =>
  B (362, [(0, .ref x0), (4, .int (x4 + Int32.ofInt 1))], []))
set_option maxRecDepth 100000 in
theorem lm_e32_362 {sc : lm_H} {d : Nat} {x0 : Nat} {x4 : Int32} {σ : lm_S} {r : Except Nat lm_R × lm_S} (h : lm_q32_362 sc (lm_cal sc d) (lm_rn sc d lm_m32.2.2.2.2.1 (lm_reg lm_m32.2.2.2.2.2)) x0 x4  σ = some r) : lm_rn sc d lm_m32.2.2.2.2.1 (lm_reg lm_m32.2.2.2.2.2) (362, [(0, .ref x0), (4, .int x4)], []) σ = some r := lm_rn_of h
/-- LatticeSuiteModel.dsaVerify, from 190 on -/
noncomputable def lm_q32_190 (sc : lm_H) (A : Nat → List Value → lm_M lm_R) (B : lm_F → lm_M lm_R) (x0 : Nat) (x2 : Int32) (x4 : Int32) (x5 : Int32) : lm_M lm_R :=
  lm_if .ge x5 (Int32.ofInt 256) (B (149, [(0, .ref x0), (2, .int x2), (4, .int (x4 + Int32.ofInt 1))], [])) (lm_bind (lm_gR 4554 x0) fun v1 =>
  lm_bind (lm_aaR sc v1 x4) fun v2 =>
  lm_bind (lm_iald sc v2 x5) fun v3 =>
  lm_bind (lm_gI 4580 x0) fun v4 =>
  lm_bind (lm_gI 4576 x0) fun v5 =>
  lm_bind (lm_gI 4572 x0) fun v6 =>
  lm_if .ge v3 (v4 - (v5 * v6)) (lm_when ((Int32.ofInt 0) = 0 ∨ (Int32.ofInt 0) = 1) inferInstance (lm_ret (some (.int (Int32.ofInt 0))))) (lm_bind (lm_gR 4554 x0) fun v7 =>
  lm_bind (lm_aaR sc v7 x4) fun v8 =>
  lm_bind (lm_iald sc v8 x5) fun v9 =>
  lm_bind (lm_gI 4576 x0) fun v10 =>
  lm_bind (lm_gI 4572 x0) fun v11 =>
  lm_bind (lm_gI 4580 x0) fun v12 =>
  lm_if .gt v9 ((v10 * v11) - v12) (B (190, [(0, .ref x0), (2, .int x2), (4, .int x4), (5, .int (x5 + Int32.ofInt 1))], [])) (lm_when ((Int32.ofInt 0) = 0 ∨ (Int32.ofInt 0) = 1) inferInstance (lm_ret (some (.int (Int32.ofInt 0)))))))
set_option maxRecDepth 100000 in
theorem lm_e32_190 {sc : lm_H} {d : Nat} {x0 : Nat} {x2 : Int32} {x4 : Int32} {x5 : Int32} {σ : lm_S} {r : Except Nat lm_R × lm_S} (h : lm_q32_190 sc (lm_cal sc d) (lm_rn sc d lm_m32.2.2.2.2.1 (lm_reg lm_m32.2.2.2.2.2)) x0 x2 x4 x5  σ = some r) : lm_rn sc d lm_m32.2.2.2.2.1 (lm_reg lm_m32.2.2.2.2.2) (190, [(0, .ref x0), (2, .int x2), (4, .int x4), (5, .int x5)], []) σ = some r := lm_rn_of h
/-- LatticeSuiteModel.dsaVerify, from 406 on -/
noncomputable def lm_q32_406 (sc : lm_H) (A : Nat → List Value → lm_M lm_R) (B : lm_F → lm_M lm_R) (x0 : Nat) (x4 : Int32) : lm_M lm_R :=
  lm_bind (lm_gI 4528 x0) fun v1 =>
  lm_if .ge x4 v1 (lm_bind (lm_gR 4614 x0) fun v2 =>
  lm_bind (lm_sel [(11, 105)] (some (.ref x0))) fun y3 =>
  lm_bind (lm_asV (A y3 [.ref x0, .int (Int32.ofInt 30), .ref v2])) fun _ =>
  lm_bind (lm_gR 4614 x0) fun v4 =>
  lm_bind (lm_gR 4406 x0) fun v5 =>
  lm_bind (lm_aaR sc v5 (Int32.ofInt 6)) fun v6 =>
  lm_bind (lm_gI 4592 x0) fun v7 =>
  lm_bind (lm_asV (A 75 [.ref v4, .int (Int32.ofInt 0), .ref v6, .int (Int32.ofInt 0), .int v7])) fun _ =>
  lm_bind (lm_gR 4410 x0) fun v8 =>
  lm_bind (lm_gI 4592 x0) fun v9 =>
  lm_bind (lm_iast v8 (Int32.ofInt 6) v9) fun _ =>
  lm_bind (lm_gR 4614 x0) fun v10 =>
  lm_bind (lm_gR 4406 x0) fun v11 =>
  lm_bind (lm_aaR sc v11 (Int32.ofInt 5)) fun v12 =>
  lm_bind (lm_gI 4592 x0) fun v13 =>
  lm_bind (lm_asI (A 80 [.ref v10, .int (Int32.ofInt 0), .ref v12, .int (Int32.ofInt 0), .int v13])) fun v14 =>
  lm_when (v14 = 0 ∨ v14 = 1) inferInstance (lm_ret (some (.int v14)))) (B (418, [(0, .ref x0), (4, .int x4), (5, .int (Int32.ofInt 0))], []))
set_option maxRecDepth 100000 in
theorem lm_e32_406 {sc : lm_H} {d : Nat} {x0 : Nat} {x4 : Int32} {σ : lm_S} {r : Except Nat lm_R × lm_S} (h : lm_q32_406 sc (lm_cal sc d) (lm_rn sc d lm_m32.2.2.2.2.1 (lm_reg lm_m32.2.2.2.2.2)) x0 x4  σ = some r) : lm_rn sc d lm_m32.2.2.2.2.1 (lm_reg lm_m32.2.2.2.2.2) (406, [(0, .ref x0), (4, .int x4)], []) σ = some r := lm_rn_of h
/-- LatticeSuiteModel.dsaVerify, from 418 on -/
noncomputable def lm_q32_418 (sc : lm_H) (A : Nat → List Value → lm_M lm_R) (B : lm_F → lm_M lm_R) (x0 : Nat) (x4 : Int32) (x5 : Int32) : lm_M lm_R :=
  lm_if .ge x5 (Int32.ofInt 256) (lm_bind (lm_gR 4554 x0) fun v1 =>
  lm_bind (lm_aaR sc v1 (Int32.ofInt 45)) fun v2 =>
  lm_bind (lm_sel [(11, 90)] (some (.ref x0))) fun y3 =>
  lm_bind (lm_asV (A y3 [.ref x0, .ref v2])) fun _ =>
  lm_bind (lm_gR 4554 x0) fun v4 =>
  lm_bind (lm_aaR sc v4 ((Int32.ofInt 30) + x4)) fun v5 =>
  lm_bind (lm_asV (A 81 [.ref v5])) fun _ =>
  lm_bind (lm_gR 4554 x0) fun v6 =>
  lm_bind (lm_aaR sc v6 ((Int32.ofInt 30) + x4)) fun v7 =>
  lm_bind (lm_gR 4554 x0) fun v8 =>
  lm_bind (lm_aaR sc v8 (Int32.ofInt 45)) fun v9 =>
  lm_bind (lm_gR 4554 x0) fun v10 =>
  lm_bind (lm_aaR sc v10 (Int32.ofInt 46)) fun v11 =>
  lm_bind (lm_asV (A 92 [.ref v7, .ref v9, .ref v11])) fun _ =>
  B (528, [(0, .ref x0), (4, .int x4), (5, .int (Int32.ofInt 0))], [])) (lm_bind (lm_gR 4554 x0) fun v12 =>
  lm_bind (lm_aaR sc v12 (Int32.ofInt 45)) fun v13 =>
  lm_bind (lm_gR 4406 x0) fun v14 =>
  lm_bind (lm_aaR sc v14 (Int32.ofInt 1)) fun v15 =>
  lm_bind (lm_sel [(11, 77)] (some (.ref x0))) fun y16 =>
  lm_bind (lm_asI (A y16 [.ref x0, .ref v15, .int (Int32.ofInt 32), .int (Int32.ofInt 10)])) fun v17 =>
  lm_when (¬ (Int64.ofNat 8380417) = 0) inferInstance (lm_when (¬ (Int32.ofInt 8380417) = 0) inferInstance (lm_bind (lm_iast v13 x5 (lm_rem (Int64.toInt32 ((Int64.ofNat 8380417) - (lm_remL ((Int32.toInt64 v17) * (Int64.ofNat 8192)) (Int64.ofNat 8380417)))) (Int32.ofInt 8380417))) fun _ =>
  B (418, [(0, .ref x0), (4, .int x4), (5, .int (x5 + Int32.ofInt 1))], []))))
set_option maxRecDepth 100000 in
theorem lm_e32_418 {sc : lm_H} {d : Nat} {x0 : Nat} {x4 : Int32} {x5 : Int32} {σ : lm_S} {r : Except Nat lm_R × lm_S} (h : lm_q32_418 sc (lm_cal sc d) (lm_rn sc d lm_m32.2.2.2.2.1 (lm_reg lm_m32.2.2.2.2.2)) x0 x4 x5  σ = some r) : lm_rn sc d lm_m32.2.2.2.2.1 (lm_reg lm_m32.2.2.2.2.2) (418, [(0, .ref x0), (4, .int x4), (5, .int x5)], []) σ = some r := lm_rn_of h
/-- LatticeSuiteModel.dsaVerify, from 528 on -/
noncomputable def lm_q32_528 (sc : lm_H) (A : Nat → List Value → lm_M lm_R) (B : lm_F → lm_M lm_R) (x0 : Nat) (x4 : Int32) (x5 : Int32) : lm_M lm_R :=
  lm_bind (lm_gI 4568 x0) fun v1 =>
  lm_if .ge x5 v1 (lm_bind (lm_gR 4554 x0) fun v2 =>
  lm_bind (lm_aaR sc v2 ((Int32.ofInt 30) + x4)) fun v3 =>
  lm_bind (lm_sel [(11, 93)] (some (.ref x0))) fun y4 =>
  lm_bind (lm_asV (A y4 [.ref x0, .ref v3])) fun _ =>
  lm_bind (lm_gI 4584 x0) fun v5 =>
  lm_when (¬ ((Int32.ofInt 2) * v5) = 0) inferInstance (B (631, [(0, .ref x0), (4, .int x4), (5, .int ((Int32.ofInt 8380416) / ((Int32.ofInt 2) * v5))), (6, .int (Int32.ofInt 0))], []))) (lm_bind (lm_gR 4554 x0) fun v6 =>
  lm_bind (lm_aaR sc v6 (Int32.ofInt 47)) fun v7 =>
  lm_bind (lm_gR 4406 x0) fun v8 =>
  lm_bind (lm_aaR sc v8 (Int32.ofInt 1)) fun v9 =>
  lm_bind (lm_sel [(11, 91)] (some (.ref x0))) fun y10 =>
  lm_bind (lm_asI (A y10 [.ref x0, .ref v7, .ref v9, .int (Int32.ofInt 0), .int x5, .int x4])) fun v11 =>
  lm_bind (lm_sel [(11, 49)] (some (.ref x0))) fun y12 =>
  lm_bind (lm_asI (A y12 [.ref x0, .int v11, .int (Int32.ofInt 4)])) fun v13 =>
  lm_if .ne v13 0 (lm_bind (lm_gR 4554 x0) fun v14 =>
  lm_bind (lm_aaR sc v14 ((Int32.ofInt 30) + x4)) fun v15 =>
  lm_bind (lm_gR 4554 x0) fun v16 =>
  lm_bind (lm_aaR sc v16 (Int32.ofInt 47)) fun v17 =>
  lm_bind (lm_gR 4554 x0) fun v18 =>
  lm_bind (lm_aaR sc v18 x5) fun v19 =>
  lm_bind (lm_asV (A 92 [.ref v15, .ref v17, .ref v19])) fun _ =>
  B (528, [(0, .ref x0), (4, .int x4), (5, .int (x5 + Int32.ofInt 1))], [])) (lm_when ((Int32.ofInt 0) = 0 ∨ (Int32.ofInt 0) = 1) inferInstance (lm_ret (some (.int (Int32.ofInt 0))))))
set_option maxRecDepth 100000 in
theorem lm_e32_528 {sc : lm_H} {d : Nat} {x0 : Nat} {x4 : Int32} {x5 : Int32} {σ : lm_S} {r : Except Nat lm_R × lm_S} (h : lm_q32_528 sc (lm_cal sc d) (lm_rn sc d lm_m32.2.2.2.2.1 (lm_reg lm_m32.2.2.2.2.2)) x0 x4 x5  σ = some r) : lm_rn sc d lm_m32.2.2.2.2.1 (lm_reg lm_m32.2.2.2.2.2) (528, [(0, .ref x0), (4, .int x4), (5, .int x5)], []) σ = some r := lm_rn_of h
/-- LatticeSuiteModel.dsaVerify, from 631 on -/
noncomputable def lm_q32_631 (sc : lm_H) (A : Nat → List Value → lm_M lm_R) (B : lm_F → lm_M lm_R) (x0 : Nat) (x4 : Int32) (x5 : Int32) (x6 : Int32) : lm_M lm_R :=
  lm_if .ge x6 (Int32.ofInt 256) (B (406, [(0, .ref x0), (4, .int (x4 + Int32.ofInt 1))], [])) (lm_bind (lm_gR 4554 x0) fun v1 =>
  lm_bind (lm_aaR sc v1 ((Int32.ofInt 30) + x4)) fun v2 =>
  lm_bind (lm_iald sc v2 x6) fun v3 =>
  lm_bind (lm_sel [(11, 103)] (some (.ref x0))) fun y4 =>
  lm_bind (lm_asI (A y4 [.ref x0, .int v3])) fun v5 =>
  lm_bind (lm_gR 4558 x0) fun v6 =>
  lm_bind (lm_aaR sc v6 x4) fun v7 =>
  lm_bind (lm_bald sc v7 x6) fun v8 =>
  lm_if .eq v8 0 (B (706, [(0, .ref x0), (4, .int x4), (5, .int x5), (6, .int x6), (8, .int v5)], [])) (lm_bind (lm_sel [(11, 104)] (some (.ref x0))) fun y9 =>
  lm_bind (lm_asI (A y9 [.ref x0, .int v3])) fun v10 =>
  lm_if .le v10 0 (lm_when (¬ x5 = 0) inferInstance (B (704, [(0, .ref x0), (4, .int x4), (5, .int x5), (6, .int x6)], [.int (lm_rem ((v5 + x5) - (Int32.ofInt 1)) x5)]))) (lm_when (¬ x5 = 0) inferInstance (B (704, [(0, .ref x0), (4, .int x4), (5, .int x5), (6, .int x6)], [.int (lm_rem (v5 + (Int32.ofInt 1)) x5)])))))
set_option maxRecDepth 100000 in
theorem lm_e32_631 {sc : lm_H} {d : Nat} {x0 : Nat} {x4 : Int32} {x5 : Int32} {x6 : Int32} {σ : lm_S} {r : Except Nat lm_R × lm_S} (h : lm_q32_631 sc (lm_cal sc d) (lm_rn sc d lm_m32.2.2.2.2.1 (lm_reg lm_m32.2.2.2.2.2)) x0 x4 x5 x6  σ = some r) : lm_rn sc d lm_m32.2.2.2.2.1 (lm_reg lm_m32.2.2.2.2.2) (631, [(0, .ref x0), (4, .int x4), (5, .int x5), (6, .int x6)], []) σ = some r := lm_rn_of h
/-- LatticeSuiteModel.dsaVerify, from 706 on -/
noncomputable def lm_q32_706 (sc : lm_H) (A : Nat → List Value → lm_M lm_R) (B : lm_F → lm_M lm_R) (x0 : Nat) (x4 : Int32) (x5 : Int32) (x6 : Int32) (x8 : Int32) : lm_M lm_R :=
  lm_bind (lm_gR 4554 x0) fun v1 =>
  lm_bind (lm_aaR sc v1 ((Int32.ofInt 30) + x4)) fun v2 =>
  lm_bind (lm_iast v2 x6 x8) fun _ =>
  B (631, [(0, .ref x0), (4, .int x4), (5, .int x5), (6, .int (x6 + Int32.ofInt 1))], [])
set_option maxRecDepth 100000 in
theorem lm_e32_706 {sc : lm_H} {d : Nat} {x0 : Nat} {x4 : Int32} {x5 : Int32} {x6 : Int32} {x8 : Int32} {σ : lm_S} {r : Except Nat lm_R × lm_S} (h : lm_q32_706 sc (lm_cal sc d) (lm_rn sc d lm_m32.2.2.2.2.1 (lm_reg lm_m32.2.2.2.2.2)) x0 x4 x5 x6 x8  σ = some r) : lm_rn sc d lm_m32.2.2.2.2.1 (lm_reg lm_m32.2.2.2.2.2) (706, [(0, .ref x0), (4, .int x4), (5, .int x5), (6, .int x6), (8, .int x8)], []) σ = some r := lm_rn_of h
/-- LatticeSuiteModel.dsaVerify, from 704 on -/
noncomputable def lm_q32_704 (sc : lm_H) (A : Nat → List Value → lm_M lm_R) (B : lm_F → lm_M lm_R) (x0 : Nat) (x4 : Int32) (x5 : Int32) (x6 : Int32) (s0 : Int32) : lm_M lm_R :=
  B (706, [(0, .ref x0), (4, .int x4), (5, .int x5), (6, .int x6), (8, .int s0)], [])
set_option maxRecDepth 100000 in
theorem lm_e32_704 {sc : lm_H} {d : Nat} {x0 : Nat} {x4 : Int32} {x5 : Int32} {x6 : Int32} {s0 : Int32} {σ : lm_S} {r : Except Nat lm_R × lm_S} (h : lm_q32_704 sc (lm_cal sc d) (lm_rn sc d lm_m32.2.2.2.2.1 (lm_reg lm_m32.2.2.2.2.2)) x0 x4 x5 x6 s0 σ = some r) : lm_rn sc d lm_m32.2.2.2.2.1 (lm_reg lm_m32.2.2.2.2.2) (704, [(0, .ref x0), (4, .int x4), (5, .int x5), (6, .int x6)], [.int s0]) σ = some r := lm_rn_of h
