/-- LatticeSuite$Dsa.smallBits, from 0 on -/
noncomputable def lm_q234_0 (sc : lm_H) (A : Nat → List Value → lm_M lm_R) (B : lm_F → lm_M lm_R) (x0 : Nat) : lm_M lm_R :=
  lm_bind (lm_gI 3668 x0) fun v1 =>
  lm_bind (lm_iald sc (lm_B + 9) v1) fun v2 =>
  lm_if .ne v2 (Int32.ofInt 2) (lm_ret (some (.int (Int32.ofInt 4)))) (lm_ret (some (.int (Int32.ofInt 3))))
set_option maxRecDepth 100000 in
theorem lm_e234_0 {sc : lm_H} {d : Nat} {x0 : Nat} {σ : lm_S} {r : Except Nat lm_R × lm_S} (h : lm_q234_0 sc (lm_cal sc d) (lm_rn sc d lm_m234.2.2.2.2.1 (lm_reg lm_m234.2.2.2.2.2)) x0  σ = some r) : lm_rn sc d lm_m234.2.2.2.2.1 (lm_reg lm_m234.2.2.2.2.2) (0, [(0, .ref x0)], []) σ = some r := lm_rn_of h
/-- LatticeSuite$Dsa.packFrom, from 0 on -/
noncomputable def lm_q235_0 (sc : lm_H) (A : Nat → List Value → lm_M lm_R) (B : lm_F → lm_M lm_R) (x0 : Nat) (x1 : Int32) (x2 : Nat) (x3 : Int32) (x4 : Nat) (x5 : Int32) : lm_M lm_R :=
  B (3, [(0, .ref x0), (1, .int x1), (2, .ref x2), (3, .int x3), (4, .ref x4), (5, .int x5), (6, .int (Int32.ofInt 0))], [])
set_option maxRecDepth 100000 in
theorem lm_e235_0 {sc : lm_H} {d : Nat} {x0 : Nat} {x1 : Int32} {x2 : Nat} {x3 : Int32} {x4 : Nat} {x5 : Int32} {σ : lm_S} {r : Except Nat lm_R × lm_S} (h : lm_q235_0 sc (lm_cal sc d) (lm_rn sc d lm_m235.2.2.2.2.1 (lm_reg lm_m235.2.2.2.2.2)) x0 x1 x2 x3 x4 x5  σ = some r) : lm_rn sc d lm_m235.2.2.2.2.1 (lm_reg lm_m235.2.2.2.2.2) (0, [(0, .ref x0), (1, .int x1), (2, .ref x2), (3, .int x3), (4, .ref x4), (5, .int x5)], []) σ = some r := lm_rn_of h
/-- LatticeSuite$Dsa.packFrom, from 3 on -/
noncomputable def lm_q235_3 (sc : lm_H) (A : Nat → List Value → lm_M lm_R) (B : lm_F → lm_M lm_R) (x0 : Nat) (x1 : Int32) (x2 : Nat) (x3 : Int32) (x4 : Nat) (x5 : Int32) (x6 : Int32) : lm_M lm_R :=
  lm_if .ge x6 (Int32.ofInt 256) (lm_bind (lm_gR 3642 x0) fun v1 =>
  lm_bind (lm_asV (A 219 [.ref v1, .int x3, .ref x4, .int x5])) fun _ =>
  lm_ret none) (lm_bind (lm_gR 3642 x0) fun v2 =>
  lm_bind (lm_iald sc x2 x6) fun v3 =>
  lm_bind (lm_iast v2 x6 (x1 - v3)) fun _ =>
  B (3, [(0, .ref x0), (1, .int x1), (2, .ref x2), (3, .int x3), (4, .ref x4), (5, .int x5), (6, .int (x6 + Int32.ofInt 1))], []))
set_option maxRecDepth 100000 in
theorem lm_e235_3 {sc : lm_H} {d : Nat} {x0 : Nat} {x1 : Int32} {x2 : Nat} {x3 : Int32} {x4 : Nat} {x5 : Int32} {x6 : Int32} {σ : lm_S} {r : Except Nat lm_R × lm_S} (h : lm_q235_3 sc (lm_cal sc d) (lm_rn sc d lm_m235.2.2.2.2.1 (lm_reg lm_m235.2.2.2.2.2)) x0 x1 x2 x3 x4 x5 x6  σ = some r) : lm_rn sc d lm_m235.2.2.2.2.1 (lm_reg lm_m235.2.2.2.2.2) (3, [(0, .ref x0), (1, .int x1), (2, .ref x2), (3, .int x3), (4, .ref x4), (5, .int x5), (6, .int x6)], []) σ = some r := lm_rn_of h
/-- LatticeSuite$Dsa.toPoints, from 0 on -/
noncomputable def lm_q236_0 (sc : lm_H) (A : Nat → List Value → lm_M lm_R) (B : lm_F → lm_M lm_R) (x0 : Nat) (x1 : Nat) : lm_M lm_R :=
  B (6, [(0, .ref x0), (1, .ref x1), (2, .int (Int32.ofInt 1)), (3, .int (Int32.ofInt 128))], [])
set_option maxRecDepth 100000 in
theorem lm_e236_0 {sc : lm_H} {d : Nat} {x0 : Nat} {x1 : Nat} {σ : lm_S} {r : Except Nat lm_R × lm_S} (h : lm_q236_0 sc (lm_cal sc d) (lm_rn sc d lm_m236.2.2.2.2.1 (lm_reg lm_m236.2.2.2.2.2)) x0 x1  σ = some r) : lm_rn sc d lm_m236.2.2.2.2.1 (lm_reg lm_m236.2.2.2.2.2) (0, [(0, .ref x0), (1, .ref x1)], []) σ = some r := lm_rn_of h
/-- LatticeSuite$Dsa.toPoints, from 6 on -/
noncomputable def lm_q236_6 (sc : lm_H) (A : Nat → List Value → lm_M lm_R) (B : lm_F → lm_M lm_R) (x0 : Nat) (x1 : Nat) (x2 : Int32) (x3 : Int32) : lm_M lm_R :=
  lm_if .lt x3 (Int32.ofInt 1) (lm_ret none) (B (14, [(0, .ref x0), (1, .ref x1), (2, .int x2), (3, .int x3), (4, .int (Int32.ofInt 0))], []))
set_option maxRecDepth 100000 in
theorem lm_e236_6 {sc : lm_H} {d : Nat} {x0 : Nat} {x1 : Nat} {x2 : Int32} {x3 : Int32} {σ : lm_S} {r : Except Nat lm_R × lm_S} (h : lm_q236_6 sc (lm_cal sc d) (lm_rn sc d lm_m236.2.2.2.2.1 (lm_reg lm_m236.2.2.2.2.2)) x0 x1 x2 x3  σ = some r) : lm_rn sc d lm_m236.2.2.2.2.1 (lm_reg lm_m236.2.2.2.2.2) (6, [(0, .ref x0), (1, .ref x1), (2, .int x2), (3, .int x3)], []) σ = some r := lm_rn_of h
/-- LatticeSuite$Dsa.toPoints, from 14 on -/
noncomputable def lm_q236_14 (sc : lm_H) (A : Nat → List Value → lm_M lm_R) (B : lm_F → lm_M lm_R) (x0 : Nat) (x1 : Nat) (x2 : Int32) (x3 : Int32) (x4 : Int32) : lm_M lm_R :=
  lm_if .ge x4 (Int32.ofInt 256) (B (6, [(0, .ref x0), (1, .ref x1), (2, .int x2), (3, .int (x3 >>> ((Int32.ofInt 1) &&& 31)))], [])) (lm_bind (lm_gR 3606 x0) fun v1 =>
  lm_bind (lm_iald sc v1 x2) fun v2 =>
  B (38, [(0, .ref x0), (1, .ref x1), (2, .int (x2 + Int32.ofInt 1)), (3, .int x3), (4, .int x4), (5, .long (Int32.toInt64 v2)), (7, .int x4)], []))
set_option maxRecDepth 100000 in
theorem lm_e236_14 {sc : lm_H} {d : Nat} {x0 : Nat} {x1 : Nat} {x2 : Int32} {x3 : Int32} {x4 : Int32} {σ : lm_S} {r : Except Nat lm_R × lm_S} (h : lm_q236_14 sc (lm_cal sc d) (lm_rn sc d lm_m236.2.2.2.2.1 (lm_reg lm_m236.2.2.2.2.2)) x0 x1 x2 x3 x4  σ = some r) : lm_rn sc d lm_m236.2.2.2.2.1 (lm_reg lm_m236.2.2.2.2.2) (14, [(0, .ref x0), (1, .ref x1), (2, .int x2), (3, .int x3), (4, .int x4)], []) σ = some r := lm_rn_of h
/-- LatticeSuite$Dsa.toPoints, from 38 on -/
noncomputable def lm_q236_38 (sc : lm_H) (A : Nat → List Value → lm_M lm_R) (B : lm_F → lm_M lm_R) (x0 : Nat) (x1 : Nat) (x2 : Int32) (x3 : Int32) (x4 : Int32) (x5 : Int64) (x7 : Int32) : lm_M lm_R :=
  lm_if .ge x7 (x4 + x3) (B (14, [(0, .ref x0), (1, .ref x1), (2, .int x2), (3, .int x3), (4, .int (x4 + ((Int32.ofInt 2) * x3)))], [])) (lm_bind (lm_iald sc x1 (x7 + x3)) fun v1 =>
  lm_when (¬ (Int64.ofNat 8380417) = 0) inferInstance (lm_bind (lm_iald sc x1 x7) fun v2 =>
  lm_bind (lm_iast x1 (x7 + x3) (v2 - (Int64.toInt32 (lm_remL (x5 * (Int32.toInt64 v1)) (Int64.ofNat 8380417))))) fun _ =>
  lm_bind (lm_iald sc x1 x7) fun v3 =>
  lm_bind (lm_iast x1 x7 (v3 + (Int64.toInt32 (lm_remL (x5 * (Int32.toInt64 v1)) (Int64.ofNat 8380417))))) fun _ =>
  B (38, [(0, .ref x0), (1, .ref x1), (2, .int x2), (3, .int x3), (4, .int x4), (5, .long x5), (7, .int (x7 + Int32.ofInt 1))], [])))
set_option maxRecDepth 100000 in
theorem lm_e236_38 {sc : lm_H} {d : Nat} {x0 : Nat} {x1 : Nat} {x2 : Int32} {x3 : Int32} {x4 : Int32} {x5 : Int64} {x7 : Int32} {σ : lm_S} {r : Except Nat lm_R × lm_S} (h : lm_q236_38 sc (lm_cal sc d) (lm_rn sc d lm_m236.2.2.2.2.1 (lm_reg lm_m236.2.2.2.2.2)) x0 x1 x2 x3 x4 x5 x7  σ = some r) : lm_rn sc d lm_m236.2.2.2.2.1 (lm_reg lm_m236.2.2.2.2.2) (38, [(0, .ref x0), (1, .ref x1), (2, .int x2), (3, .int x3), (4, .int x4), (5, .long x5), (7, .int x7)], []) σ = some r := lm_rn_of h
/-- LatticeSuite$Dsa.multiplyRow, from 0 on -/
noncomputable def lm_q237_0 (sc : lm_H) (A : Nat → List Value → lm_M lm_R) (B : lm_F → lm_M lm_R) (x0 : Nat) (x1 : Int32) (x2 : Nat) (x3 : Nat) : lm_M lm_R :=
  B (3, [(0, .ref x0), (1, .int x1), (2, .ref x2), (3, .ref x3), (4, .int (Int32.ofInt 0))], [])
set_option maxRecDepth 100000 in
theorem lm_e237_0 {sc : lm_H} {d : Nat} {x0 : Nat} {x1 : Int32} {x2 : Nat} {x3 : Nat} {σ : lm_S} {r : Except Nat lm_R × lm_S} (h : lm_q237_0 sc (lm_cal sc d) (lm_rn sc d lm_m237.2.2.2.2.1 (lm_reg lm_m237.2.2.2.2.2)) x0 x1 x2 x3  σ = some r) : lm_rn sc d lm_m237.2.2.2.2.1 (lm_reg lm_m237.2.2.2.2.2) (0, [(0, .ref x0), (1, .int x1), (2, .ref x2), (3, .ref x3)], []) σ = some r := lm_rn_of h
/-- LatticeSuite$Dsa.multiplyRow, from 3 on -/
noncomputable def lm_q237_3 (sc : lm_H) (A : Nat → List Value → lm_M lm_R) (B : lm_F → lm_M lm_R) (x0 : Nat) (x1 : Int32) (x2 : Nat) (x3 : Nat) (x4 : Int32) : lm_M lm_R :=
  lm_if .ge x4 (Int32.ofInt 256) (lm_ret none) (B (17, [(0, .ref x0), (1, .int x1), (2, .ref x2), (3, .ref x3), (4, .int x4), (5, .long (Int64.ofNat 0)), (7, .int (Int32.ofInt 0))], []))
set_option maxRecDepth 100000 in
theorem lm_e237_3 {sc : lm_H} {d : Nat} {x0 : Nat} {x1 : Int32} {x2 : Nat} {x3 : Nat} {x4 : Int32} {σ : lm_S} {r : Except Nat lm_R × lm_S} (h : lm_q237_3 sc (lm_cal sc d) (lm_rn sc d lm_m237.2.2.2.2.1 (lm_reg lm_m237.2.2.2.2.2)) x0 x1 x2 x3 x4  σ = some r) : lm_rn sc d lm_m237.2.2.2.2.1 (lm_reg lm_m237.2.2.2.2.2) (3, [(0, .ref x0), (1, .int x1), (2, .ref x2), (3, .ref x3), (4, .int x4)], []) σ = some r := lm_rn_of h
/-- LatticeSuite$Dsa.multiplyRow, from 17 on -/
noncomputable def lm_q237_17 (sc : lm_H) (A : Nat → List Value → lm_M lm_R) (B : lm_F → lm_M lm_R) (x0 : Nat) (x1 : Int32) (x2 : Nat) (x3 : Nat) (x4 : Int32) (x5 : Int64) (x7 : Int32) : lm_M lm_R :=
  lm_bind (lm_gI 3676 x0) fun v1 =>
  lm_if .ge x7 v1 (lm_when (¬ (Int64.ofNat 8380417) = 0) inferInstance (lm_bind (lm_iast x3 x4 (Int64.toInt32 (lm_remL x5 (Int64.ofNat 8380417)))) fun _ =>
  B (3, [(0, .ref x0), (1, .int x1), (2, .ref x2), (3, .ref x3), (4, .int (x4 + Int32.ofInt 1))], []))) (lm_bind (lm_gR 3610 x0) fun v2 =>
  lm_bind (lm_gI 3676 x0) fun v3 =>
  lm_bind (lm_aaR sc v2 ((x1 * v3) + x7)) fun v4 =>
  lm_bind (lm_iald sc v4 x4) fun v5 =>
  lm_bind (lm_aaR sc x2 x7) fun v6 =>
  lm_bind (lm_iald sc v6 x4) fun v7 =>
  B (17, [(0, .ref x0), (1, .int x1), (2, .ref x2), (3, .ref x3), (4, .int x4), (5, .long (x5 + ((Int32.toInt64 v5) * (Int32.toInt64 v7)))), (7, .int (x7 + Int32.ofInt 1))], []))
set_option maxRecDepth 100000 in
theorem lm_e237_17 {sc : lm_H} {d : Nat} {x0 : Nat} {x1 : Int32} {x2 : Nat} {x3 : Nat} {x4 : Int32} {x5 : Int64} {x7 : Int32} {σ : lm_S} {r : Except Nat lm_R × lm_S} (h : lm_q237_17 sc (lm_cal sc d) (lm_rn sc d lm_m237.2.2.2.2.1 (lm_reg lm_m237.2.2.2.2.2)) x0 x1 x2 x3 x4 x5 x7  σ = some r) : lm_rn sc d lm_m237.2.2.2.2.1 (lm_reg lm_m237.2.2.2.2.2) (17, [(0, .ref x0), (1, .int x1), (2, .ref x2), (3, .ref x3), (4, .int x4), (5, .long x5), (7, .int x7)], []) σ = some r := lm_rn_of h
/-- LatticeSuite$Dsa.fromPoints, from 0 on -/
noncomputable def lm_q238_0 (sc : lm_H) (A : Nat → List Value → lm_M lm_R) (B : lm_F → lm_M lm_R) (x0 : Nat) (x1 : Nat) : lm_M lm_R :=
  B (6, [(0, .ref x0), (1, .ref x1), (2, .int (Int32.ofInt 255)), (3, .int (Int32.ofInt 1))], [])
set_option maxRecDepth 100000 in
theorem lm_e238_0 {sc : lm_H} {d : Nat} {x0 : Nat} {x1 : Nat} {σ : lm_S} {r : Except Nat lm_R × lm_S} (h : lm_q238_0 sc (lm_cal sc d) (lm_rn sc d lm_m238.2.2.2.2.1 (lm_reg lm_m238.2.2.2.2.2)) x0 x1  σ = some r) : lm_rn sc d lm_m238.2.2.2.2.1 (lm_reg lm_m238.2.2.2.2.2) (0, [(0, .ref x0), (1, .ref x1)], []) σ = some r := lm_rn_of h
/-- LatticeSuite$Dsa.fromPoints, from 6 on -/
noncomputable def lm_q238_6 (sc : lm_H) (A : Nat → List Value → lm_M lm_R) (B : lm_F → lm_M lm_R) (x0 : Nat) (x1 : Nat) (x2 : Int32) (x3 : Int32) : lm_M lm_R :=
  lm_if .gt x3 (Int32.ofInt 128) (B (118, [(1, .ref x1), (3, .int (Int32.ofInt 0))], [])) (B (16, [(0, .ref x0), (1, .ref x1), (2, .int x2), (3, .int x3), (4, .int (Int32.ofInt 0))], []))
set_option maxRecDepth 100000 in
theorem lm_e238_6 {sc : lm_H} {d : Nat} {x0 : Nat} {x1 : Nat} {x2 : Int32} {x3 : Int32} {σ : lm_S} {r : Except Nat lm_R × lm_S} (h : lm_q238_6 sc (lm_cal sc d) (lm_rn sc d lm_m238.2.2.2.2.1 (lm_reg lm_m238.2.2.2.2.2)) x0 x1 x2 x3  σ = some r) : lm_rn sc d lm_m238.2.2.2.2.1 (lm_reg lm_m238.2.2.2.2.2) (6, [(0, .ref x0), (1, .ref x1), (2, .int x2), (3, .int x3)], []) σ = some r := lm_rn_of h
/-- LatticeSuite$Dsa.fromPoints, from 118 on -/
noncomputable def lm_q238_118 (sc : lm_H) (A : Nat → List Value → lm_M lm_R) (B : lm_F → lm_M lm_R) (x1 : Nat) (x3 : Int32) : lm_M lm_R :=
  lm_if .ge x3 (Int32.ofInt 256) (lm_ret none) (lm_bind (lm_iald sc x1 x3) fun v1 =>
  lm_bind (lm_asL (A 294 [.long ((Int32.toInt64 v1) * (Int64.ofNat 8347681)), .long (Int64.ofNat 8380417)])) fun v2 =>
  lm_bind (lm_iast x1 x3 (Int64.toInt32 v2)) fun _ =>
  B (118, [(1, .ref x1), (3, .int (x3 + Int32.ofInt 1))], []))
set_option maxRecDepth 100000 in
theorem lm_e238_118 {sc : lm_H} {d : Nat} {x1 : Nat} {x3 : Int32} {σ : lm_S} {r : Except Nat lm_R × lm_S} (h : lm_q238_118 sc (lm_cal sc d) (lm_rn sc d lm_m238.2.2.2.2.1 (lm_reg lm_m238.2.2.2.2.2)) x1 x3  σ = some r) : lm_rn sc d lm_m238.2.2.2.2.1 (lm_reg lm_m238.2.2.2.2.2) (118, [(1, .ref x1), (3, .int x3)], []) σ = some r := lm_rn_of h
/-- LatticeSuite$Dsa.fromPoints, from 16 on -/
noncomputable def lm_q238_16 (sc : lm_H) (A : Nat → List Value → lm_M lm_R) (B : lm_F → lm_M lm_R) (x0 : Nat) (x1 : Nat) (x2 : Int32) (x3 : Int32) (x4 : Int32) : lm_M lm_R :=
  lm_if .ge x4 (Int32.ofInt 256) (B (6, [(0, .ref x0), (1, .ref x1), (2, .int x2), (3, .int (x3 <<< ((Int32.ofInt 1) &&& 31)))], [])) (lm_bind (lm_gR 3606 x0) fun v1 =>
  lm_bind (lm_iald sc v1 x2) fun v2 =>
  B (40, [(0, .ref x0), (1, .ref x1), (2, .int (x2 + Int32.ofInt (-1))), (3, .int x3), (4, .int x4), (5, .long (Int32.toInt64 v2)), (7, .int x4)], []))
set_option maxRecDepth 100000 in
theorem lm_e238_16 {sc : lm_H} {d : Nat} {x0 : Nat} {x1 : Nat} {x2 : Int32} {x3 : Int32} {x4 : Int32} {σ : lm_S} {r : Except Nat lm_R × lm_S} (h : lm_q238_16 sc (lm_cal sc d) (lm_rn sc d lm_m238.2.2.2.2.1 (lm_reg lm_m238.2.2.2.2.2)) x0 x1 x2 x3 x4  σ = some r) : lm_rn sc d lm_m238.2.2.2.2.1 (lm_reg lm_m238.2.2.2.2.2) (16, [(0, .ref x0), (1, .ref x1), (2, .int x2), (3, .int x3), (4, .int x4)], []) σ = some r := lm_rn_of h
/-- LatticeSuite$Dsa.fromPoints, from 40 on -/
noncomputable def lm_q238_40 (sc : lm_H) (A : Nat → List Value → lm_M lm_R) (B : lm_F → lm_M lm_R) (x0 : Nat) (x1 : Nat) (x2 : Int32) (x3 : Int32) (x4 : Int32) (x5 : Int64) (x7 : Int32) : lm_M lm_R :=
  lm_if .ge x7 (x4 + x3) (B (16, [(0, .ref x0), (1, .ref x1), (2, .int x2), (3, .int x3), (4, .int (x4 + ((Int32.ofInt 2) * x3)))], [])) (lm_bind (lm_iald sc x1 x7) fun v1 =>
  lm_bind (lm_iald sc x1 (x7 + x3)) fun v2 =>
  lm_bind (lm_iast x1 x7 (v1 + v2)) fun _ =>
  lm_bind (lm_iald sc x1 (x7 + x3)) fun v3 =>
  lm_when (¬ (Int64.ofNat 8380417) = 0) inferInstance (lm_bind (lm_iast x1 (x7 + x3) (Int64.toInt32 (lm_remL (x5 * (Int32.toInt64 (v3 - v1))) (Int64.ofNat 8380417)))) fun _ =>
  B (40, [(0, .ref x0), (1, .ref x1), (2, .int x2), (3, .int x3), (4, .int x4), (5, .long x5), (7, .int (x7 + Int32.ofInt 1))], [])))
set_option maxRecDepth 100000 in
theorem lm_e238_40 {sc : lm_H} {d : Nat} {x0 : Nat} {x1 : Nat} {x2 : Int32} {x3 : Int32} {x4 : Int32} {x5 : Int64} {x7 : Int32} {σ : lm_S} {r : Except Nat lm_R × lm_S} (h : lm_q238_40 sc (lm_cal sc d) (lm_rn sc d lm_m238.2.2.2.2.1 (lm_reg lm_m238.2.2.2.2.2)) x0 x1 x2 x3 x4 x5 x7  σ = some r) : lm_rn sc d lm_m238.2.2.2.2.1 (lm_reg lm_m238.2.2.2.2.2) (40, [(0, .ref x0), (1, .ref x1), (2, .int x2), (3, .int x3), (4, .int x4), (5, .long x5), (7, .int x7)], []) σ = some r := lm_rn_of h
/-- LatticeSuite$Dsa.splitTop, from 0 on -/
noncomputable def lm_q239_0 (sc : lm_H) (A : Nat → List Value → lm_M lm_R) (B : lm_F → lm_M lm_R) (x0 : Nat) (x1 : Int32) (x2 : Nat) : lm_M lm_R :=
  B (7, [(0, .ref x0), (1, .int x1), (2, .ref x2), (3, .int (Int32.ofInt 4096)), (4, .int (Int32.ofInt 0))], [])
set_option maxRecDepth 100000 in
theorem lm_e239_0 {sc : lm_H} {d : Nat} {x0 : Nat} {x1 : Int32} {x2 : Nat} {σ : lm_S} {r : Except Nat lm_R × lm_S} (h : lm_q239_0 sc (lm_cal sc d) (lm_rn sc d lm_m239.2.2.2.2.1 (lm_reg lm_m239.2.2.2.2.2)) x0 x1 x2  σ = some r) : lm_rn sc d lm_m239.2.2.2.2.1 (lm_reg lm_m239.2.2.2.2.2) (0, [(0, .ref x0), (1, .int x1), (2, .ref x2)], []) σ = some r := lm_rn_of h
/-- LatticeSuite$Dsa.splitTop, from 7 on -/
noncomputable def lm_q239_7 (sc : lm_H) (A : Nat → List Value → lm_M lm_R) (B : lm_F → lm_M lm_R) (x0 : Nat) (x1 : Int32) (x2 : Nat) (x3 : Int32) (x4 : Int32) : lm_M lm_R :=
  lm_if .ge x4 (Int32.ofInt 256) (lm_bind (lm_gR 3618 x0) fun v1 =>
  lm_bind (lm_aaR sc v1 x1) fun v2 =>
  lm_bind (lm_asV (A 219 [.ref v2, .int (Int32.ofInt 10), .ref x2, .int ((Int32.ofInt 32) + ((Int32.ofInt 320) * x1))])) fun _ =>
  lm_ret none) (lm_bind (lm_gR 3618 x0) fun v3 =>
  lm_bind (lm_aaR sc v3 x1) fun v4 =>
  lm_bind (lm_iald sc v4 x4) fun v5 =>
  lm_bind (lm_gR 3614 x0) fun v6 =>
  lm_bind (lm_gI 3676 x0) fun v7 =>
  lm_bind (lm_aaR sc v6 (v7 + x1)) fun v8 =>
  lm_bind (lm_iald sc v8 x4) fun v9 =>
  lm_bind (lm_asI (A 286 [.int (v5 + v9), .int (Int32.ofInt 8380417)])) fun v10 =>
  lm_bind (lm_gR 3638 x0) fun v11 =>
  lm_bind (lm_iast v11 x4 (v10 - ((((v10 + x3) - (Int32.ofInt 1)) >>> ((Int32.ofInt 13) &&& 31)) <<< ((Int32.ofInt 13) &&& 31)))) fun _ =>
  lm_bind (lm_gR 3618 x0) fun v12 =>
  lm_bind (lm_aaR sc v12 x1) fun v13 =>
  lm_bind (lm_iast v13 x4 (((v10 + x3) - (Int32.ofInt 1)) >>> ((Int32.ofInt 13) &&& 31))) fun _ =>
  B (7, [(0, .ref x0), (1, .int x1), (2, .ref x2), (3, .int x3), (4, .int (x4 + Int32.ofInt 1))], []))
set_option maxRecDepth 100000 in
theorem lm_e239_7 {sc : lm_H} {d : Nat} {x0 : Nat} {x1 : Int32} {x2 : Nat} {x3 : Int32} {x4 : Int32} {σ : lm_S} {r : Except Nat lm_R × lm_S} (h : lm_q239_7 sc (lm_cal sc d) (lm_rn sc d lm_m239.2.2.2.2.1 (lm_reg lm_m239.2.2.2.2.2)) x0 x1 x2 x3 x4  σ = some r) : lm_rn sc d lm_m239.2.2.2.2.1 (lm_reg lm_m239.2.2.2.2.2) (7, [(0, .ref x0), (1, .int x1), (2, .ref x2), (3, .int x3), (4, .int x4)], []) σ = some r := lm_rn_of h
/-- LatticeSuite$Dsa.hash, from 0 on -/
noncomputable def lm_q240_0 (sc : lm_H) (A : Nat → List Value → lm_M lm_R) (B : lm_F → lm_M lm_R) (x0 : Nat) (x1 : Nat) (x2 : Int32) (x3 : Int32) (x4 : Nat) (x5 : Int32) : lm_M lm_R :=
  lm_bind (lm_gR 3602 x0) fun v1 =>
  lm_bind (lm_sel [(2, 139)] (some (.ref v1))) fun y2 =>
  lm_bind (lm_asR (A y2 [.ref v1, .int (Int32.ofInt 12)])) fun v3 =>
  lm_bind (lm_sel [(5, 140), (6, 140), (7, 140)] (some (.ref v3))) fun y4 =>
  lm_bind (lm_asV (A y4 [.ref v3, .ref x1, .int x2, .int x3])) fun _ =>
  lm_bind (lm_sel [(5, 143), (6, 144), (7, 145)] (some (.ref v3))) fun y5 =>
  lm_bind (lm_asV (A y5 [.ref v3, .ref x4, .int x5, .int (Int32.ofInt 64)])) fun _ =>
  lm_ret none
set_option maxRecDepth 100000 in
theorem lm_e240_0 {sc : lm_H} {d : Nat} {x0 : Nat} {x1 : Nat} {x2 : Int32} {x3 : Int32} {x4 : Nat} {x5 : Int32} {σ : lm_S} {r : Except Nat lm_R × lm_S} (h : lm_q240_0 sc (lm_cal sc d) (lm_rn sc d lm_m240.2.2.2.2.1 (lm_reg lm_m240.2.2.2.2.2)) x0 x1 x2 x3 x4 x5  σ = some r) : lm_rn sc d lm_m240.2.2.2.2.1 (lm_reg lm_m240.2.2.2.2.2) (0, [(0, .ref x0), (1, .ref x1), (2, .int x2), (3, .int x3), (4, .ref x4), (5, .int x5)], []) σ = some r := lm_rn_of h
/-- LatticeSuite$Signed.addHash, from 0 on -/
noncomputable def lm_q241_0 (sc : lm_H) (A : Nat → List Value → lm_M lm_R) (B : lm_F → lm_M lm_R) (x0 : Nat) (x1 : Int32) : lm_M lm_R :=
  lm_bind (lm_gR 1614 x0) fun v1 =>
  lm_bind (lm_gI 1616 x0) fun v2 =>
  lm_bind (lm_alen sc (lm_B + 10)) fun v3 =>
  lm_bind (lm_copy sc (lm_B + 10) (Int32.ofInt 0) v1 v2 v3) fun _ =>
  lm_bind (lm_gI 1616 x0) fun v4 =>
  lm_bind (lm_alen sc (lm_B + 10)) fun v5 =>
  lm_bind (lm_putf 1616 x0 (.int (v4 + v5))) fun _ =>
  lm_bind (lm_gR 1614 x0) fun v6 =>
  lm_bind (lm_gI 1616 x0) fun v7 =>
  lm_bind (lm_putf 1616 x0 (.int (v7 + (Int32.ofInt 1)))) fun _ =>
  lm_bind (lm_bast v6 v7 (lm_b8 x1)) fun _ =>
  lm_bind (lm_gR 1602 x0) fun v8 =>
  lm_bind (lm_sel [(2, 139)] (some (.ref v8))) fun y9 =>
  lm_bind (lm_asR (A y9 [.ref v8, .int x1])) fun v10 =>
  lm_bind (lm_gR 1610 x0) fun v11 =>
  lm_bind (lm_gR 402 v11) fun v12 =>
  lm_bind (lm_gR 1610 x0) fun v13 =>
  lm_bind (lm_gI 404 v13) fun v14 =>
  lm_bind (lm_sel [(5, 140), (6, 140), (7, 140)] (some (.ref v10))) fun y15 =>
  lm_bind (lm_asV (A y15 [.ref v10, .ref v12, .int (Int32.ofInt 0), .int v14])) fun _ =>
  lm_bind (lm_gR 1614 x0) fun v16 =>
  lm_bind (lm_gI 1616 x0) fun v17 =>
  lm_bind (lm_iald sc (lm_B + 1) x1) fun v18 =>
  lm_bind (lm_sel [(5, 143), (6, 144), (7, 145)] (some (.ref v10))) fun y19 =>
  lm_bind (lm_asV (A y19 [.ref v10, .ref v16, .int v17, .int v18])) fun _ =>
  lm_bind (lm_gI 1616 x0) fun v20 =>
  lm_bind (lm_iald sc (lm_B + 1) x1) fun v21 =>
  lm_bind (lm_putf 1616 x0 (.int (v20 + v21))) fun _ =>
  lm_ret none
set_option maxRecDepth 100000 in
theorem lm_e241_0 {sc : lm_H} {d : Nat} {x0 : Nat} {x1 : Int32} {σ : lm_S} {r : Except Nat lm_R × lm_S} (h : lm_q241_0 sc (lm_cal sc d) (lm_rn sc d lm_m241.2.2.2.2.1 (lm_reg lm_m241.2.2.2.2.2)) x0 x1  σ = some r) : lm_rn sc d lm_m241.2.2.2.2.1 (lm_reg lm_m241.2.2.2.2.2) (0, [(0, .ref x0), (1, .int x1)], []) σ = some r := lm_rn_of h
/-- LatticeSuite$Dsa.hashSigned, from 0 on -/
noncomputable def lm_q242_0 (sc : lm_H) (A : Nat → List Value → lm_M lm_R) (B : lm_F → lm_M lm_R) (x0 : Nat) (x1 : Nat) (x2 : Int32) (x3 : Nat) : lm_M lm_R :=
  lm_bind (lm_gR 3602 x0) fun v1 =>
  lm_bind (lm_sel [(2, 139)] (some (.ref v1))) fun y2 =>
  lm_bind (lm_asR (A y2 [.ref v1, .int (Int32.ofInt 12)])) fun v3 =>
  lm_bind (lm_sel [(5, 140), (6, 140), (7, 140)] (some (.ref v3))) fun y4 =>
  lm_bind (lm_asV (A y4 [.ref v3, .ref x1, .int x2, .int (Int32.ofInt 64)])) fun _ =>
  lm_bind (lm_sel [(4, 295)] (some (.ref x3))) fun y5 =>
  lm_bind (lm_asV (A y5 [.ref x3, .ref v3])) fun _ =>
  lm_bind (lm_gR 3658 x0) fun v6 =>
  lm_bind (lm_sel [(5, 143), (6, 144), (7, 145)] (some (.ref v3))) fun y7 =>
  lm_bind (lm_asV (A y7 [.ref v3, .ref v6, .int (Int32.ofInt 0), .int (Int32.ofInt 64)])) fun _ =>
  lm_ret none
set_option maxRecDepth 100000 in
theorem lm_e242_0 {sc : lm_H} {d : Nat} {x0 : Nat} {x1 : Nat} {x2 : Int32} {x3 : Nat} {σ : lm_S} {r : Except Nat lm_R × lm_S} (h : lm_q242_0 sc (lm_cal sc d) (lm_rn sc d lm_m242.2.2.2.2.1 (lm_reg lm_m242.2.2.2.2.2)) x0 x1 x2 x3  σ = some r) : lm_rn sc d lm_m242.2.2.2.2.1 (lm_reg lm_m242.2.2.2.2.2) (0, [(0, .ref x0), (1, .ref x1), (2, .int x2), (3, .ref x3)], []) σ = some r := lm_rn_of h
/-- LatticeSuite$Dsa.startMasks, from 0 on -/
noncomputable def lm_q243_0 (sc : lm_H) (A : Nat → List Value → lm_M lm_R) (B : lm_F → lm_M lm_R) (x0 : Nat) (x1 : Nat) (x2 : Nat) : lm_M lm_R :=
  lm_bind (lm_gR 3646 x0) fun v1 =>
  lm_bind (lm_asV (A 134 [.ref v1, .int (Int32.ofInt 0), .int (Int32.ofInt 32), .int (Int32.ofInt 0)])) fun _ =>
  lm_bind (lm_gR 402 x2) fun v2 =>
  lm_bind (lm_gR 3646 x0) fun v3 =>
  lm_bind (lm_gI 404 x2) fun v4 =>
  lm_bind (lm_asI (A 205 [.int v4, .int (Int32.ofInt 32)])) fun v5 =>
  lm_bind (lm_copy sc v2 (Int32.ofInt 0) v3 (Int32.ofInt 0) v5) fun _ =>
  lm_bind (lm_gR 3602 x0) fun v6 =>
  lm_bind (lm_sel [(2, 139)] (some (.ref v6))) fun y7 =>
  lm_bind (lm_asR (A y7 [.ref v6, .int (Int32.ofInt 12)])) fun v8 =>
  lm_bind (lm_sel [(5, 140), (6, 140), (7, 140)] (some (.ref v8))) fun y9 =>
  lm_bind (lm_asV (A y9 [.ref v8, .ref x1, .int (Int32.ofInt 32), .int (Int32.ofInt 32)])) fun _ =>
  lm_bind (lm_gR 3646 x0) fun v10 =>
  lm_bind (lm_sel [(5, 140), (6, 140), (7, 140)] (some (.ref v8))) fun y11 =>
  lm_bind (lm_asV (A y11 [.ref v8, .ref v10, .int (Int32.ofInt 0), .int (Int32.ofInt 32)])) fun _ =>
  lm_bind (lm_gR 3658 x0) fun v12 =>
  lm_bind (lm_sel [(5, 140), (6, 140), (7, 140)] (some (.ref v8))) fun y13 =>
  lm_bind (lm_asV (A y13 [.ref v8, .ref v12, .int (Int32.ofInt 0), .int (Int32.ofInt 64)])) fun _ =>
  lm_bind (lm_gR 3650 x0) fun v14 =>
  lm_bind (lm_sel [(5, 143), (6, 144), (7, 145)] (some (.ref v8))) fun y15 =>
  lm_bind (lm_asV (A y15 [.ref v8, .ref v14, .int (Int32.ofInt 0), .int (Int32.ofInt 64)])) fun _ =>
  lm_ret none
set_option maxRecDepth 100000 in
theorem lm_e243_0 {sc : lm_H} {d : Nat} {x0 : Nat} {x1 : Nat} {x2 : Nat} {σ : lm_S} {r : Except Nat lm_R × lm_S} (h : lm_q243_0 sc (lm_cal sc d) (lm_rn sc d lm_m243.2.2.2.2.1 (lm_reg lm_m243.2.2.2.2.2)) x0 x1 x2  σ = some r) : lm_rn sc d lm_m243.2.2.2.2.1 (lm_reg lm_m243.2.2.2.2.2) (0, [(0, .ref x0), (1, .ref x1), (2, .ref x2)], []) σ = some r := lm_rn_of h
/-- LatticeSuite$Dsa.openSecret, from 0 on -/
noncomputable def lm_q244_0 (sc : lm_H) (A : Nat → List Value → lm_M lm_R) (B : lm_F → lm_M lm_R) (x0 : Nat) (x1 : Nat) : lm_M lm_R :=
  B (6, [(0, .ref x0), (1, .ref x1), (2, .int (Int32.ofInt 128)), (3, .int (Int32.ofInt 0))], [])
set_option maxRecDepth 100000 in
theorem lm_e244_0 {sc : lm_H} {d : Nat} {x0 : Nat} {x1 : Nat} {σ : lm_S} {r : Except Nat lm_R × lm_S} (h : lm_q244_0 sc (lm_cal sc d) (lm_rn sc d lm_m244.2.2.2.2.1 (lm_reg lm_m244.2.2.2.2.2)) x0 x1  σ = some r) : lm_rn sc d lm_m244.2.2.2.2.1 (lm_reg lm_m244.2.2.2.2.2) (0, [(0, .ref x0), (1, .ref x1)], []) σ = some r := lm_rn_of h
/-- LatticeSuite$Dsa.openSecret, from 6 on -/
noncomputable def lm_q244_6 (sc : lm_H) (A : Nat → List Value → lm_M lm_R) (B : lm_F → lm_M lm_R) (x0 : Nat) (x1 : Nat) (x2 : Int32) (x3 : Int32) : lm_M lm_R :=
  lm_bind (lm_gI 3676 x0) fun v1 =>
  lm_bind (lm_gI 3672 x0) fun v2 =>
  lm_if .ge x3 (v1 + v2) (B (71, [(0, .ref x0), (1, .ref x1), (2, .int x2), (3, .int (Int32.ofInt 0))], [])) (lm_bind (lm_gI 3668 x0) fun v3 =>
  lm_bind (lm_iald sc (lm_B + 9) v3) fun v4 =>
  lm_bind (lm_sel [(9, 234)] (some (.ref x0))) fun y5 =>
  lm_bind (lm_asI (A y5 [.ref x0])) fun v6 =>
  lm_bind (lm_gR 3614 x0) fun v7 =>
  lm_bind (lm_aaR sc v7 x3) fun v8 =>
  lm_bind (lm_sel [(9, 252)] (some (.ref x0))) fun y9 =>
  lm_bind (lm_asV (A y9 [.ref x0, .int v4, .ref x1, .int x2, .int v6, .ref v8])) fun _ =>
  lm_bind (lm_gR 3614 x0) fun v10 =>
  lm_bind (lm_aaR sc v10 x3) fun v11 =>
  lm_bind (lm_sel [(9, 236)] (some (.ref x0))) fun y12 =>
  lm_bind (lm_asV (A y12 [.ref x0, .ref v11])) fun _ =>
  lm_bind (lm_sel [(9, 234)] (some (.ref x0))) fun y13 =>
  lm_bind (lm_asI (A y13 [.ref x0])) fun v14 =>
  B (6, [(0, .ref x0), (1, .ref x1), (2, .int (x2 + ((Int32.ofInt 32) * v14))), (3, .int (x3 + Int32.ofInt 1))], []))
set_option maxRecDepth 100000 in
theorem lm_e244_6 {sc : lm_H} {d : Nat} {x0 : Nat} {x1 : Nat} {x2 : Int32} {x3 : Int32} {σ : lm_S} {r : Except Nat lm_R × lm_S} (h : lm_q244_6 sc (lm_cal sc d) (lm_rn sc d lm_m244.2.2.2.2.1 (lm_reg lm_m244.2.2.2.2.2)) x0 x1 x2 x3  σ = some r) : lm_rn sc d lm_m244.2.2.2.2.1 (lm_reg lm_m244.2.2.2.2.2) (6, [(0, .ref x0), (1, .ref x1), (2, .int x2), (3, .int x3)], []) σ = some r := lm_rn_of h
/-- LatticeSuite$Dsa.openSecret, from 71 on -/
noncomputable def lm_q244_71 (sc : lm_H) (A : Nat → List Value → lm_M lm_R) (B : lm_F → lm_M lm_R) (x0 : Nat) (x1 : Nat) (x2 : Int32) (x3 : Int32) : lm_M lm_R :=
  lm_bind (lm_gI 3672 x0) fun v1 =>
  lm_if .ge x3 v1 (lm_ret none) (lm_bind (lm_gR 3618 x0) fun v2 =>
  lm_bind (lm_aaR sc v2 x3) fun v3 =>
  lm_bind (lm_sel [(9, 252)] (some (.ref x0))) fun y4 =>
  lm_bind (lm_asV (A y4 [.ref x0, .int (Int32.ofInt 4096), .ref x1, .int x2, .int (Int32.ofInt 13), .ref v3])) fun _ =>
  lm_bind (lm_gR 3618 x0) fun v5 =>
  lm_bind (lm_aaR sc v5 x3) fun v6 =>
  lm_bind (lm_sel [(9, 236)] (some (.ref x0))) fun y7 =>
  lm_bind (lm_asV (A y7 [.ref x0, .ref v6])) fun _ =>
  B (71, [(0, .ref x0), (1, .ref x1), (2, .int (x2 + Int32.ofInt 416)), (3, .int (x3 + Int32.ofInt 1))], []))
set_option maxRecDepth 100000 in
theorem lm_e244_71 {sc : lm_H} {d : Nat} {x0 : Nat} {x1 : Nat} {x2 : Int32} {x3 : Int32} {σ : lm_S} {r : Except Nat lm_R × lm_S} (h : lm_q244_71 sc (lm_cal sc d) (lm_rn sc d lm_m244.2.2.2.2.1 (lm_reg lm_m244.2.2.2.2.2)) x0 x1 x2 x3  σ = some r) : lm_rn sc d lm_m244.2.2.2.2.1 (lm_reg lm_m244.2.2.2.2.2) (71, [(0, .ref x0), (1, .ref x1), (2, .int x2), (3, .int x3)], []) σ = some r := lm_rn_of h
/-- LatticeSuite$Dsa.attempt, from 0 on -/
noncomputable def lm_q245_0 (sc : lm_H) (A : Nat → List Value → lm_M lm_R) (B : lm_F → lm_M lm_R) (x0 : Nat) (x1 : Int32) : lm_M lm_R :=
  B (2, [(0, .ref x0), (1, .int x1), (2, .int (Int32.ofInt 0))], [])
set_option maxRecDepth 100000 in
theorem lm_e245_0 {sc : lm_H} {d : Nat} {x0 : Nat} {x1 : Int32} {σ : lm_S} {r : Except Nat lm_R × lm_S} (h : lm_q245_0 sc (lm_cal sc d) (lm_rn sc d lm_m245.2.2.2.2.1 (lm_reg lm_m245.2.2.2.2.2)) x0 x1  σ = some r) : lm_rn sc d lm_m245.2.2.2.2.1 (lm_reg lm_m245.2.2.2.2.2) (0, [(0, .ref x0), (1, .int x1)], []) σ = some r := lm_rn_of h
/-- LatticeSuite$Dsa.attempt, from 2 on -/
noncomputable def lm_q245_2 (sc : lm_H) (A : Nat → List Value → lm_M lm_R) (B : lm_F → lm_M lm_R) (x0 : Nat) (x1 : Int32) (x2 : Int32) : lm_M lm_R :=
  lm_bind (lm_gI 3676 x0) fun v1 =>
  lm_if .ge x2 v1 (B (61, [(0, .ref x0), (2, .int (Int32.ofInt 0))], [])) (lm_bind (lm_gR 3622 x0) fun v2 =>
  lm_bind (lm_aaR sc v2 x2) fun v3 =>
  lm_bind (lm_sel [(9, 296)] (some (.ref x0))) fun y4 =>
  lm_bind (lm_asV (A y4 [.ref x0, .ref v3, .int (x1 + x2)])) fun _ =>
  lm_bind (lm_gR 3622 x0) fun v5 =>
  lm_bind (lm_aaR sc v5 x2) fun v6 =>
  lm_bind (lm_gR 3626 x0) fun v7 =>
  lm_bind (lm_aaR sc v7 x2) fun v8 =>
  lm_bind (lm_copy sc v6 (Int32.ofInt 0) v8 (Int32.ofInt 0) (Int32.ofInt 256)) fun _ =>
  lm_bind (lm_gR 3626 x0) fun v9 =>
  lm_bind (lm_aaR sc v9 x2) fun v10 =>
  lm_bind (lm_sel [(9, 236)] (some (.ref x0))) fun y11 =>
  lm_bind (lm_asV (A y11 [.ref x0, .ref v10])) fun _ =>
  B (2, [(0, .ref x0), (1, .int x1), (2, .int (x2 + Int32.ofInt 1))], []))
set_option maxRecDepth 100000 in
theorem lm_e245_2 {sc : lm_H} {d : Nat} {x0 : Nat} {x1 : Int32} {x2 : Int32} {σ : lm_S} {r : Except Nat lm_R × lm_S} (h : lm_q245_2 sc (lm_cal sc d) (lm_rn sc d lm_m245.2.2.2.2.1 (lm_reg lm_m245.2.2.2.2.2)) x0 x1 x2  σ = some r) : lm_rn sc d lm_m245.2.2.2.2.1 (lm_reg lm_m245.2.2.2.2.2) (2, [(0, .ref x0), (1, .int x1), (2, .int x2)], []) σ = some r := lm_rn_of h
/-- LatticeSuite$Dsa.attempt, from 61 on -/
noncomputable def lm_q245_61 (sc : lm_H) (A : Nat → List Value → lm_M lm_R) (B : lm_F → lm_M lm_R) (x0 : Nat) (x2 : Int32) : lm_M lm_R :=
  lm_bind (lm_gI 3672 x0) fun v1 =>
  lm_if .ge x2 v1 (lm_bind (lm_gR 3602 x0) fun v2 =>
  lm_bind (lm_sel [(2, 139)] (some (.ref v2))) fun y3 =>
  lm_bind (lm_asR (A y3 [.ref v2, .int (Int32.ofInt 12)])) fun v4 =>
  lm_bind (lm_gR 3658 x0) fun v5 =>
  lm_bind (lm_sel [(5, 140), (6, 140), (7, 140)] (some (.ref v4))) fun y6 =>
  lm_bind (lm_asV (A y6 [.ref v4, .ref v5, .int (Int32.ofInt 0), .int (Int32.ofInt 64)])) fun _ =>
  B (123, [(0, .ref x0), (2, .ref v4), (3, .int (Int32.ofInt 0))], [])) (lm_bind (lm_gR 3626 x0) fun v7 =>
  lm_bind (lm_gR 3630 x0) fun v8 =>
  lm_bind (lm_aaR sc v8 x2) fun v9 =>
  lm_bind (lm_sel [(9, 237)] (some (.ref x0))) fun y10 =>
  lm_bind (lm_asV (A y10 [.ref x0, .int x2, .ref v7, .ref v9])) fun _ =>
  lm_bind (lm_gR 3630 x0) fun v11 =>
  lm_bind (lm_aaR sc v11 x2) fun v12 =>
  lm_bind (lm_sel [(9, 238)] (some (.ref x0))) fun y13 =>
  lm_bind (lm_asV (A y13 [.ref x0, .ref v12])) fun _ =>
  B (61, [(0, .ref x0), (2, .int (x2 + Int32.ofInt 1))], []))
set_option maxRecDepth 100000 in
theorem lm_e245_61 {sc : lm_H} {d : Nat} {x0 : Nat} {x2 : Int32} {σ : lm_S} {r : Except Nat lm_R × lm_S} (h : lm_q245_61 sc (lm_cal sc d) (lm_rn sc d lm_m245.2.2.2.2.1 (lm_reg lm_m245.2.2.2.2.2)) x0 x2  σ = some r) : lm_rn sc d lm_m245.2.2.2.2.1 (lm_reg lm_m245.2.2.2.2.2) (61, [(0, .ref x0), (2, .int x2)], []) σ = some r := lm_rn_of h
/-- LatticeSuite$Dsa.attempt, from 123 on -/
noncomputable def lm_q245_123 (sc : lm_H) (A : Nat → List Value → lm_M lm_R) (B : lm_F → lm_M lm_R) (x0 : Nat) (x2 : Nat) (x3 : Int32) : lm_M lm_R :=
  lm_bind (lm_gI 3672 x0) fun v1 =>
  lm_if .ge x3 v1 (lm_bind (lm_gR 3662 x0) fun v2 =>
  lm_bind (lm_gI 3668 x0) fun v3 =>
  lm_bind (lm_iald sc (lm_B + 13) v3) fun v4 =>
  lm_bind (lm_sel [(5, 143), (6, 144), (7, 145)] (some (.ref x2))) fun y5 =>
  lm_bind (lm_asV (A y5 [.ref x2, .ref v2, .int (Int32.ofInt 0), .int v4])) fun _ =>
  lm_bind (lm_gR 3662 x0) fun v6 =>
  lm_bind (lm_sel [(9, 254)] (some (.ref x0))) fun y7 =>
  lm_bind (lm_asV (A y7 [.ref x0, .ref v6])) fun _ =>
  lm_bind (lm_gR 3634 x0) fun v8 =>
  lm_bind (lm_sel [(9, 236)] (some (.ref x0))) fun y9 =>
  lm_bind (lm_asV (A y9 [.ref x0, .ref v8])) fun _ =>
  lm_bind (lm_sel [(9, 298)] (some (.ref x0))) fun y10 =>
  lm_bind (lm_asI (A y10 [.ref x0])) fun v11 =>
  lm_if .eq v11 0 (lm_when ((Int32.ofInt 0) = 0 ∨ (Int32.ofInt 0) = 1) inferInstance (lm_ret (some (.int (Int32.ofInt 0))))) (lm_bind (lm_sel [(9, 299)] (some (.ref x0))) fun y12 =>
  lm_bind (lm_asI (A y12 [.ref x0])) fun v13 =>
  lm_if .eq v13 0 (lm_when ((Int32.ofInt 0) = 0 ∨ (Int32.ofInt 0) = 1) inferInstance (lm_ret (some (.int (Int32.ofInt 0))))) (lm_bind (lm_sel [(9, 300)] (some (.ref x0))) fun y14 =>
  lm_bind (lm_asI (A y14 [.ref x0])) fun v15 =>
  lm_if .eq v15 0 (lm_when ((Int32.ofInt 0) = 0 ∨ (Int32.ofInt 0) = 1) inferInstance (lm_ret (some (.int (Int32.ofInt 0))))) (lm_when ((Int32.ofInt 1) = 0 ∨ (Int32.ofInt 1) = 1) inferInstance (lm_ret (some (.int (Int32.ofInt 1)))))))) (lm_bind (lm_gR 3630 x0) fun v16 =>
  lm_bind (lm_aaR sc v16 x3) fun v17 =>
  lm_bind (lm_sel [(9, 297)] (some (.ref x0))) fun y18 =>
  lm_bind (lm_asV (A y18 [.ref x0, .ref x2, .ref v17])) fun _ =>
  B (123, [(0, .ref x0), (2, .ref x2), (3, .int (x3 + Int32.ofInt 1))], []))
set_option maxRecDepth 100000 in
theorem lm_e245_123 {sc : lm_H} {d : Nat} {x0 : Nat} {x2 : Nat} {x3 : Int32} {σ : lm_S} {r : Except Nat lm_R × lm_S} (h : lm_q245_123 sc (lm_cal sc d) (lm_rn sc d lm_m245.2.2.2.2.1 (lm_reg lm_m245.2.2.2.2.2)) x0 x2 x3  σ = some r) : lm_rn sc d lm_m245.2.2.2.2.1 (lm_reg lm_m245.2.2.2.2.2) (123, [(0, .ref x0), (2, .ref x2), (3, .int x3)], []) σ = some r := lm_rn_of h
/-- LatticeSuite$Dsa.writePacket, from 0 on -/
noncomputable def lm_q246_0 (sc : lm_H) (A : Nat → List Value → lm_M lm_R) (B : lm_F → lm_M lm_R) (x0 : Nat) (x1 : Nat) : lm_M lm_R :=
  lm_bind (lm_gI 3668 x0) fun v1 =>
  lm_bind (lm_iald sc (lm_B + 13) v1) fun v2 =>
  lm_bind (lm_gR 3662 x0) fun v3 =>
  lm_bind (lm_gR 402 x1) fun v4 =>
  lm_bind (lm_copy sc v3 (Int32.ofInt 0) v4 (Int32.ofInt 0) v2) fun _ =>
  B (25, [(0, .ref x0), (1, .ref x1), (2, .int v2), (3, .int (Int32.ofInt 0))], [])
set_option maxRecDepth 100000 in
theorem lm_e246_0 {sc : lm_H} {d : Nat} {x0 : Nat} {x1 : Nat} {σ : lm_S} {r : Except Nat lm_R × lm_S} (h : lm_q246_0 sc (lm_cal sc d) (lm_rn sc d lm_m246.2.2.2.2.1 (lm_reg lm_m246.2.2.2.2.2)) x0 x1  σ = some r) : lm_rn sc d lm_m246.2.2.2.2.1 (lm_reg lm_m246.2.2.2.2.2) (0, [(0, .ref x0), (1, .ref x1)], []) σ = some r := lm_rn_of h
/-- LatticeSuite$Dsa.writePacket, from 25 on -/
noncomputable def lm_q246_25 (sc : lm_H) (A : Nat → List Value → lm_M lm_R) (B : lm_F → lm_M lm_R) (x0 : Nat) (x1 : Nat) (x2 : Int32) (x3 : Int32) : lm_M lm_R :=
  lm_bind (lm_gI 3676 x0) fun v1 =>
  lm_if .ge x3 v1 (lm_bind (lm_gR 3666 x0) fun v2 =>
  lm_bind (lm_gR 402 x1) fun v3 =>
  lm_bind (lm_gI 3668 x0) fun v4 =>
  lm_bind (lm_iald sc (lm_B + 15) v4) fun v5 =>
  lm_bind (lm_gI 3672 x0) fun v6 =>
  lm_bind (lm_copy sc v2 (Int32.ofInt 0) v3 x2 (v5 + v6)) fun _ =>
  lm_bind (lm_sel [(9, 248)] (some (.ref x0))) fun y7 =>
  lm_bind (lm_asI (A y7 [.ref x0])) fun v8 =>
  lm_bind (lm_putf 404 x1 (.int v8)) fun _ =>
  lm_ret none) (lm_bind (lm_gI 3668 x0) fun v9 =>
  lm_bind (lm_iald sc (lm_B + 11) v9) fun v10 =>
  lm_bind (lm_gR 3622 x0) fun v11 =>
  lm_bind (lm_aaR sc v11 x3) fun v12 =>
  lm_bind (lm_sel [(9, 251)] (some (.ref x0))) fun y13 =>
  lm_bind (lm_asI (A y13 [.ref x0])) fun v14 =>
  lm_bind (lm_gR 402 x1) fun v15 =>
  lm_bind (lm_sel [(9, 235)] (some (.ref x0))) fun y16 =>
  lm_bind (lm_asV (A y16 [.ref x0, .int v10, .ref v12, .int v14, .ref v15, .int x2])) fun _ =>
  lm_bind (lm_sel [(9, 251)] (some (.ref x0))) fun y17 =>
  lm_bind (lm_asI (A y17 [.ref x0])) fun v18 =>
  B (25, [(0, .ref x0), (1, .ref x1), (2, .int (x2 + ((Int32.ofInt 32) * v18))), (3, .int (x3 + Int32.ofInt 1))], []))
set_option maxRecDepth 100000 in
theorem lm_e246_25 {sc : lm_H} {d : Nat} {x0 : Nat} {x1 : Nat} {x2 : Int32} {x3 : Int32} {σ : lm_S} {r : Except Nat lm_R × lm_S} (h : lm_q246_25 sc (lm_cal sc d) (lm_rn sc d lm_m246.2.2.2.2.1 (lm_reg lm_m246.2.2.2.2.2)) x0 x1 x2 x3  σ = some r) : lm_rn sc d lm_m246.2.2.2.2.1 (lm_reg lm_m246.2.2.2.2.2) (25, [(0, .ref x0), (1, .ref x1), (2, .int x2), (3, .int x3)], []) σ = some r := lm_rn_of h
/-- LatticeSuiteModel.centre, from 0 on -/
noncomputable def lm_q247_0 (sc : lm_H) (A : Nat → List Value → lm_M lm_R) (B : lm_F → lm_M lm_R) (x0 : Int32) : lm_M lm_R :=
  lm_if .le x0 (Int32.ofInt 4190208) (lm_ret (some (.int x0))) (lm_ret (some (.int (x0 - (Int32.ofInt 8380417)))))
set_option maxRecDepth 100000 in
theorem lm_e247_0 {sc : lm_H} {d : Nat} {x0 : Int32} {σ : lm_S} {r : Except Nat lm_R × lm_S} (h : lm_q247_0 sc (lm_cal sc d) (lm_rn sc d lm_m247.2.2.2.2.1 (lm_reg lm_m247.2.2.2.2.2)) x0  σ = some r) : lm_rn sc d lm_m247.2.2.2.2.1 (lm_reg lm_m247.2.2.2.2.2) (0, [(0, .int x0)], []) σ = some r := lm_rn_of h
/-- LatticeSuite$Dsa.packetSize, from 0 on -/
noncomputable def lm_q248_0 (sc : lm_H) (A : Nat → List Value → lm_M lm_R) (B : lm_F → lm_M lm_R) (x0 : Nat) : lm_M lm_R :=
  lm_bind (lm_gI 3668 x0) fun v1 =>
  lm_bind (lm_iald sc (lm_B + 13) v1) fun v2 =>
  lm_bind (lm_gI 3676 x0) fun v3 =>
  lm_bind (lm_sel [(9, 251)] (some (.ref x0))) fun y4 =>
  lm_bind (lm_asI (A y4 [.ref x0])) fun v5 =>
  lm_bind (lm_gI 3668 x0) fun v6 =>
  lm_bind (lm_iald sc (lm_B + 15) v6) fun v7 =>
  lm_bind (lm_gI 3672 x0) fun v8 =>
  lm_ret (some (.int (((v2 + ((v3 * (Int32.ofInt 32)) * v5)) + v7) + v8)))
set_option maxRecDepth 100000 in
theorem lm_e248_0 {sc : lm_H} {d : Nat} {x0 : Nat} {σ : lm_S} {r : Except Nat lm_R × lm_S} (h : lm_q248_0 sc (lm_cal sc d) (lm_rn sc d lm_m248.2.2.2.2.1 (lm_reg lm_m248.2.2.2.2.2)) x0  σ = some r) : lm_rn sc d lm_m248.2.2.2.2.1 (lm_reg lm_m248.2.2.2.2.2) (0, [(0, .ref x0)], []) σ = some r := lm_rn_of h
/-- LatticeSuite$Dsa.hintsAreOrdered, from 0 on -/
noncomputable def lm_q249_0 (sc : lm_H) (A : Nat → List Value → lm_M lm_R) (B : lm_F → lm_M lm_R) (x0 : Nat) (x1 : Nat) : lm_M lm_R :=
  lm_bind (lm_gI 3668 x0) fun v1 =>
  lm_bind (lm_iald sc (lm_B + 15) v1) fun v2 =>
  lm_bind (lm_sel [(9, 248)] (some (.ref x0))) fun y3 =>
  lm_bind (lm_asI (A y3 [.ref x0])) fun v4 =>
  lm_bind (lm_gI 3672 x0) fun v5 =>
  B (27, [(0, .ref x0), (1, .ref x1), (2, .int v2), (3, .int ((v4 - v2) - v5)), (4, .int (Int32.ofInt 0)), (5, .int (Int32.ofInt 0))], [])
set_option maxRecDepth 100000 in
theorem lm_e249_0 {sc : lm_H} {d : Nat} {x0 : Nat} {x1 : Nat} {σ : lm_S} {r : Except Nat lm_R × lm_S} (h : lm_q249_0 sc (lm_cal sc d) (lm_rn sc d lm_m249.2.2.2.2.1 (lm_reg lm_m249.2.2.2.2.2)) x0 x1  σ = some r) : lm_rn sc d lm_m249.2.2.2.2.1 (lm_reg lm_m249.2.2.2.2.2) (0, [(0, .ref x0), (1, .ref x1)], []) σ = some r := lm_rn_of h
/-- LatticeSuite$Dsa.hintsAreOrdered, from 27 on -/
noncomputable def lm_q249_27 (sc : lm_H) (A : Nat → List Value → lm_M lm_R) (B : lm_F → lm_M lm_R) (x0 : Nat) (x1 : Nat) (x2 : Int32) (x3 : Int32) (x4 : Int32) (x5 : Int32) : lm_M lm_R :=
  lm_bind (lm_gI 3672 x0) fun v1 =>
  lm_if .ge x5 v1 (B (125, [(1, .ref x1), (2, .int x2), (3, .int x3), (5, .int x4)], [])) (lm_bind (lm_bald sc x1 ((x3 + x2) + x5)) fun v2 =>
  lm_if .lt (v2 &&& (Int32.ofInt 255)) x4 (lm_when ((Int32.ofInt 0) = 0 ∨ (Int32.ofInt 0) = 1) inferInstance (lm_ret (some (.int (Int32.ofInt 0))))) (lm_if .le (v2 &&& (Int32.ofInt 255)) x2 (B (71, [(0, .ref x0), (1, .ref x1), (2, .int x2), (3, .int x3), (5, .int x5), (6, .int (v2 &&& (Int32.ofInt 255))), (7, .int (x4 + (Int32.ofInt 1)))], [])) (lm_when ((Int32.ofInt 0) = 0 ∨ (Int32.ofInt 0) = 1) inferInstance (lm_ret (some (.int (Int32.ofInt 0)))))))
set_option maxRecDepth 100000 in
theorem lm_e249_27 {sc : lm_H} {d : Nat} {x0 : Nat} {x1 : Nat} {x2 : Int32} {x3 : Int32} {x4 : Int32} {x5 : Int32} {σ : lm_S} {r : Except Nat lm_R × lm_S} (h : lm_q249_27 sc (lm_cal sc d) (lm_rn sc d lm_m249.2.2.2.2.1 (lm_reg lm_m249.2.2.2.2.2)) x0 x1 x2 x3 x4 x5  σ = some r) : lm_rn sc d lm_m249.2.2.2.2.1 (lm_reg lm_m249.2.2.2.2.2) (27, [(0, .ref x0), (1, .ref x1), (2, .int x2), (3, .int x3), (4, .int x4), (5, .int x5)], []) σ = some r := lm_rn_of h
/-- LatticeSuite$Dsa.hintsAreOrdered, from 125 on -/
noncomputable def lm_q249_125 (sc : lm_H) (A : Nat → List Value → lm_M lm_R) (B : lm_F → lm_M lm_R) (x1 : Nat) (x2 : Int32) (x3 : Int32) (x5 : Int32) : lm_M lm_R :=
  lm_if .ge x5 x2 (lm_when ((Int32.ofInt 1) = 0 ∨ (Int32.ofInt 1) = 1) inferInstance (lm_ret (some (.int (Int32.ofInt 1))))) (lm_bind (lm_bald sc x1 (x3 + x5)) fun v1 =>
  lm_if .eq v1 0 (B (125, [(1, .ref x1), (2, .int x2), (3, .int x3), (5, .int (x5 + Int32.ofInt 1))], [])) (lm_when ((Int32.ofInt 0) = 0 ∨ (Int32.ofInt 0) = 1) inferInstance (lm_ret (some (.int (Int32.ofInt 0))))))
set_option maxRecDepth 100000 in
theorem lm_e249_125 {sc : lm_H} {d : Nat} {x1 : Nat} {x2 : Int32} {x3 : Int32} {x5 : Int32} {σ : lm_S} {r : Except Nat lm_R × lm_S} (h : lm_q249_125 sc (lm_cal sc d) (lm_rn sc d lm_m249.2.2.2.2.1 (lm_reg lm_m249.2.2.2.2.2)) x1 x2 x3 x5  σ = some r) : lm_rn sc d lm_m249.2.2.2.2.1 (lm_reg lm_m249.2.2.2.2.2) (125, [(1, .ref x1), (2, .int x2), (3, .int x3), (5, .int x5)], []) σ = some r := lm_rn_of h
/-- LatticeSuite$Dsa.hintsAreOrdered, from 71 on -/
noncomputable def lm_q249_71 (sc : lm_H) (A : Nat → List Value → lm_M lm_R) (B : lm_F → lm_M lm_R) (x0 : Nat) (x1 : Nat) (x2 : Int32) (x3 : Int32) (x5 : Int32) (x6 : Int32) (x7 : Int32) : lm_M lm_R :=
  lm_if .ge x7 x6 (B (27, [(0, .ref x0), (1, .ref x1), (2, .int x2), (3, .int x3), (4, .int x6), (5, .int (x5 + Int32.ofInt 1))], [])) (lm_bind (lm_bald sc x1 ((x3 + x7) - (Int32.ofInt 1))) fun v1 =>
  lm_bind (lm_bald sc x1 (x3 + x7)) fun v2 =>
  lm_if .lt (v1 &&& (Int32.ofInt 255)) (v2 &&& (Int32.ofInt 255)) (B (71, [(0, .ref x0), (1, .ref x1), (2, .int x2), (3, .int x3), (5, .int x5), (6, .int x6), (7, .int (x7 + Int32.ofInt 1))], [])) (lm_when ((Int32.ofInt 0) = 0 ∨ (Int32.ofInt 0) = 1) inferInstance (lm_ret (some (.int (Int32.ofInt 0))))))
set_option maxRecDepth 100000 in
theorem lm_e249_71 {sc : lm_H} {d : Nat} {x0 : Nat} {x1 : Nat} {x2 : Int32} {x3 : Int32} {x5 : Int32} {x6 : Int32} {x7 : Int32} {σ : lm_S} {r : Except Nat lm_R × lm_S} (h : lm_q249_71 sc (lm_cal sc d) (lm_rn sc d lm_m249.2.2.2.2.1 (lm_reg lm_m249.2.2.2.2.2)) x0 x1 x2 x3 x5 x6 x7  σ = some r) : lm_rn sc d lm_m249.2.2.2.2.1 (lm_reg lm_m249.2.2.2.2.2) (71, [(0, .ref x0), (1, .ref x1), (2, .int x2), (3, .int x3), (5, .int x5), (6, .int x6), (7, .int x7)], []) σ = some r := lm_rn_of h
/-- LatticeSuite$Dsa.bound, from 0 on -/
noncomputable def lm_q250_0 (sc : lm_H) (A : Nat → List Value → lm_M lm_R) (B : lm_F → lm_M lm_R) (x0 : Nat) : lm_M lm_R :=
  lm_bind (lm_gI 3668 x0) fun v1 =>
  lm_bind (lm_iald sc (lm_B + 14) v1) fun v2 =>
  lm_bind (lm_gI 3668 x0) fun v3 =>
  lm_bind (lm_iald sc (lm_B + 9) v3) fun v4 =>
  lm_ret (some (.int (v2 * v4)))
set_option maxRecDepth 100000 in
theorem lm_e250_0 {sc : lm_H} {d : Nat} {x0 : Nat} {σ : lm_S} {r : Except Nat lm_R × lm_S} (h : lm_q250_0 sc (lm_cal sc d) (lm_rn sc d lm_m250.2.2.2.2.1 (lm_reg lm_m250.2.2.2.2.2)) x0  σ = some r) : lm_rn sc d lm_m250.2.2.2.2.1 (lm_reg lm_m250.2.2.2.2.2) (0, [(0, .ref x0)], []) σ = some r := lm_rn_of h
/-- LatticeSuite$Dsa.maskBits, from 0 on -/
noncomputable def lm_q251_0 (sc : lm_H) (A : Nat → List Value → lm_M lm_R) (B : lm_F → lm_M lm_R) (x0 : Nat) : lm_M lm_R :=
  lm_bind (lm_gI 3668 x0) fun v1 =>
  lm_if .ne v1 0 (lm_ret (some (.int (Int32.ofInt 20)))) (lm_ret (some (.int (Int32.ofInt 18))))
set_option maxRecDepth 100000 in
theorem lm_e251_0 {sc : lm_H} {d : Nat} {x0 : Nat} {σ : lm_S} {r : Except Nat lm_R × lm_S} (h : lm_q251_0 sc (lm_cal sc d) (lm_rn sc d lm_m251.2.2.2.2.1 (lm_reg lm_m251.2.2.2.2.2)) x0  σ = some r) : lm_rn sc d lm_m251.2.2.2.2.1 (lm_reg lm_m251.2.2.2.2.2) (0, [(0, .ref x0)], []) σ = some r := lm_rn_of h
/-- LatticeSuite$Dsa.unpackFrom, from 0 on -/
noncomputable def lm_q252_0 (sc : lm_H) (A : Nat → List Value → lm_M lm_R) (B : lm_F → lm_M lm_R) (x0 : Nat) (x1 : Int32) (x2 : Nat) (x3 : Int32) (x4 : Int32) (x5 : Nat) : lm_M lm_R :=
  lm_bind (lm_asV (A 227 [.ref x2, .int x3, .int x4, .ref x5])) fun _ =>
  B (12, [(1, .int x1), (5, .ref x5), (6, .int (Int32.ofInt 0))], [])
set_option maxRecDepth 100000 in
theorem lm_e252_0 {sc : lm_H} {d : Nat} {x0 : Nat} {x1 : Int32} {x2 : Nat} {x3 : Int32} {x4 : Int32} {x5 : Nat} {σ : lm_S} {r : Except Nat lm_R × lm_S} (h : lm_q252_0 sc (lm_cal sc d) (lm_rn sc d lm_m252.2.2.2.2.1 (lm_reg lm_m252.2.2.2.2.2)) x0 x1 x2 x3 x4 x5  σ = some r) : lm_rn sc d lm_m252.2.2.2.2.1 (lm_reg lm_m252.2.2.2.2.2) (0, [(0, .ref x0), (1, .int x1), (2, .ref x2), (3, .int x3), (4, .int x4), (5, .ref x5)], []) σ = some r := lm_rn_of h
/-- LatticeSuite$Dsa.unpackFrom, from 12 on -/
noncomputable def lm_q252_12 (sc : lm_H) (A : Nat → List Value → lm_M lm_R) (B : lm_F → lm_M lm_R) (x1 : Int32) (x5 : Nat) (x6 : Int32) : lm_M lm_R :=
  lm_if .ge x6 (Int32.ofInt 256) (lm_ret none) (lm_bind (lm_iald sc x5 x6) fun v1 =>
  lm_bind (lm_iast x5 x6 (x1 - v1)) fun _ =>
  B (12, [(1, .int x1), (5, .ref x5), (6, .int (x6 + Int32.ofInt 1))], []))
set_option maxRecDepth 100000 in
theorem lm_e252_12 {sc : lm_H} {d : Nat} {x1 : Int32} {x5 : Nat} {x6 : Int32} {σ : lm_S} {r : Except Nat lm_R × lm_S} (h : lm_q252_12 sc (lm_cal sc d) (lm_rn sc d lm_m252.2.2.2.2.1 (lm_reg lm_m252.2.2.2.2.2)) x1 x5 x6  σ = some r) : lm_rn sc d lm_m252.2.2.2.2.1 (lm_reg lm_m252.2.2.2.2.2) (12, [(1, .int x1), (5, .ref x5), (6, .int x6)], []) σ = some r := lm_rn_of h
/-- java/lang/Math.abs, from 0 on -/
noncomputable def lm_q253_0 (sc : lm_H) (A : Nat → List Value → lm_M lm_R) (B : lm_F → lm_M lm_R) (x0 : Int32) : lm_M lm_R :=
  lm_if .ge x0 0 (lm_ret (some (.int x0))) (lm_ret (some (.int (-x0))))
set_option maxRecDepth 100000 in
theorem lm_e253_0 {sc : lm_H} {d : Nat} {x0 : Int32} {σ : lm_S} {r : Except Nat lm_R × lm_S} (h : lm_q253_0 sc (lm_cal sc d) (lm_rn sc d lm_m253.2.2.2.2.1 (lm_reg lm_m253.2.2.2.2.2)) x0  σ = some r) : lm_rn sc d lm_m253.2.2.2.2.1 (lm_reg lm_m253.2.2.2.2.2) (0, [(0, .int x0)], []) σ = some r := lm_rn_of h
/-- LatticeSuite$Dsa.fillBall, from 0 on -/
noncomputable def lm_q254_0 (sc : lm_H) (A : Nat → List Value → lm_M lm_R) (B : lm_F → lm_M lm_R) (x0 : Nat) (x1 : Nat) : lm_M lm_R :=
  lm_bind (lm_gR 3602 x0) fun v1 =>
  lm_bind (lm_sel [(2, 139)] (some (.ref v1))) fun y2 =>
  lm_bind (lm_asR (A y2 [.ref v1, .int (Int32.ofInt 12)])) fun v3 =>
  lm_bind (lm_gI 3668 x0) fun v4 =>
  lm_bind (lm_iald sc (lm_B + 13) v4) fun v5 =>
  lm_bind (lm_sel [(5, 140), (6, 140), (7, 140)] (some (.ref v3))) fun y6 =>
  lm_bind (lm_asV (A y6 [.ref v3, .ref x1, .int (Int32.ofInt 0), .int v5])) fun _ =>
  lm_bind (lm_gR 3646 x0) fun v7 =>
  lm_bind (lm_sel [(5, 143), (6, 144), (7, 145)] (some (.ref v3))) fun y8 =>
  lm_bind (lm_asV (A y8 [.ref v3, .ref v7, .int (Int32.ofInt 0), .int (Int32.ofInt 129)])) fun _ =>
  lm_bind (lm_gR 3634 x0) fun v9 =>
  lm_bind (lm_asV (A 287 [.ref v9, .int (Int32.ofInt 0)])) fun _ =>
  lm_bind (lm_gI 3668 x0) fun v10 =>
  lm_bind (lm_iald sc (lm_B + 14) v10) fun v11 =>
  B (61, [(0, .ref x0), (3, .int ((Int32.ofInt 256) - v11)), (4, .int (Int32.ofInt 8))], [])
set_option maxRecDepth 100000 in
theorem lm_e254_0 {sc : lm_H} {d : Nat} {x0 : Nat} {x1 : Nat} {σ : lm_S} {r : Except Nat lm_R × lm_S} (h : lm_q254_0 sc (lm_cal sc d) (lm_rn sc d lm_m254.2.2.2.2.1 (lm_reg lm_m254.2.2.2.2.2)) x0 x1  σ = some r) : lm_rn sc d lm_m254.2.2.2.2.1 (lm_reg lm_m254.2.2.2.2.2) (0, [(0, .ref x0), (1, .ref x1)], []) σ = some r := lm_rn_of h
/-- LatticeSuite$Dsa.fillBall, from 61 on -/
noncomputable def lm_q254_61 (sc : lm_H) (A : Nat → List Value → lm_M lm_R) (B : lm_F → lm_M lm_R) (x0 : Nat) (x3 : Int32) (x4 : Int32) : lm_M lm_R :=
  lm_if .ge x4 (Int32.ofInt 129) (B (166, [(3, .int x3)], [])) (lm_if .ge x3 (Int32.ofInt 256) (B (166, [(3, .int x3)], [])) (lm_bind (lm_gR 3646 x0) fun v1 =>
  lm_bind (lm_bald sc v1 x4) fun v2 =>
  lm_if .gt (v2 &&& (Int32.ofInt 255)) x3 (B (160, [(0, .ref x0), (3, .int x3), (4, .int x4)], [])) (lm_bind (lm_gI 3668 x0) fun v3 =>
  lm_bind (lm_iald sc (lm_B + 14) v3) fun v4 =>
  lm_bind (lm_gR 3634 x0) fun v5 =>
  lm_bind (lm_gR 3634 x0) fun v6 =>
  lm_bind (lm_iald sc v6 (v2 &&& (Int32.ofInt 255))) fun v7 =>
  lm_bind (lm_iast v5 x3 v7) fun _ =>
  lm_bind (lm_gR 3634 x0) fun v8 =>
  lm_bind (lm_gR 3646 x0) fun v9 =>
  lm_bind (lm_bald sc v9 (((x3 + v4) - (Int32.ofInt 256)) >>> ((Int32.ofInt 3) &&& 31))) fun v10 =>
  lm_if .ne ((v10 >>> ((((x3 + v4) - (Int32.ofInt 256)) &&& (Int32.ofInt 7)) &&& 31)) &&& (Int32.ofInt 1)) (Int32.ofInt 1) (B (156, [(0, .ref x0), (3, .int x3), (4, .int x4)], [.int (Int32.ofInt 1), .int (v2 &&& (Int32.ofInt 255)), .ref v8])) (B (156, [(0, .ref x0), (3, .int x3), (4, .int x4)], [.int (Int32.ofInt (-1)), .int (v2 &&& (Int32.ofInt 255)), .ref v8])))))
set_option maxRecDepth 100000 in
theorem lm_e254_61 {sc : lm_H} {d : Nat} {x0 : Nat} {x3 : Int32} {x4 : Int32} {σ : lm_S} {r : Except Nat lm_R × lm_S} (h : lm_q254_61 sc (lm_cal sc d) (lm_rn sc d lm_m254.2.2.2.2.1 (lm_reg lm_m254.2.2.2.2.2)) x0 x3 x4  σ = some r) : lm_rn sc d lm_m254.2.2.2.2.1 (lm_reg lm_m254.2.2.2.2.2) (61, [(0, .ref x0), (3, .int x3), (4, .int x4)], []) σ = some r := lm_rn_of h
/-- LatticeSuite$Dsa.fillBall, from 166 on -/
noncomputable def lm_q254_166 (sc : lm_H) (A : Nat → List Value → lm_M lm_R) (B : lm_F → lm_M lm_R) (x3 : Int32) : lm_M lm_R :=
  lm_if .ge x3 (Int32.ofInt 256) (lm_ret none) (lm_thr 15)
set_option maxRecDepth 100000 in
theorem lm_e254_166 {sc : lm_H} {d : Nat} {x3 : Int32} {σ : lm_S} {r : Except Nat lm_R × lm_S} (h : lm_q254_166 sc (lm_cal sc d) (lm_rn sc d lm_m254.2.2.2.2.1 (lm_reg lm_m254.2.2.2.2.2)) x3  σ = some r) : lm_rn sc d lm_m254.2.2.2.2.1 (lm_reg lm_m254.2.2.2.2.2) (166, [(3, .int x3)], []) σ = some r := lm_rn_of h
/-- LatticeSuite$Dsa.fillBall, from 160 on -/
noncomputable def lm_q254_160 (sc : lm_H) (A : Nat → List Value → lm_M lm_R) (B : lm_F → lm_M lm_R) (x0 : Nat) (x3 : Int32) (x4 : Int32) : lm_M lm_R :=
  B (61, [(0, .ref x0), (3, .int x3), (4, .int (x4 + Int32.ofInt 1))], [])
set_option maxRecDepth 100000 in
theorem lm_e254_160 {sc : lm_H} {d : Nat} {x0 : Nat} {x3 : Int32} {x4 : Int32} {σ : lm_S} {r : Except Nat lm_R × lm_S} (h : lm_q254_160 sc (lm_cal sc d) (lm_rn sc d lm_m254.2.2.2.2.1 (lm_reg lm_m254.2.2.2.2.2)) x0 x3 x4  σ = some r) : lm_rn sc d lm_m254.2.2.2.2.1 (lm_reg lm_m254.2.2.2.2.2) (160, [(0, .ref x0), (3, .int x3), (4, .int x4)], []) σ = some r := lm_rn_of h
/-- LatticeSuite$Dsa.fillBall, from 156 on -/
noncomputable def lm_q254_156 (sc : lm_H) (A : Nat → List Value → lm_M lm_R) (B : lm_F → lm_M lm_R) (x0 : Nat) (x3 : Int32) (x4 : Int32) (s0 : Int32) (s1 : Int32) (s2 : Nat) : lm_M lm_R :=
  lm_bind (lm_iast s2 s1 s0) fun _ =>
  B (160, [(0, .ref x0), (3, .int (x3 + Int32.ofInt 1)), (4, .int x4)], [])
set_option maxRecDepth 100000 in
theorem lm_e254_156 {sc : lm_H} {d : Nat} {x0 : Nat} {x3 : Int32} {x4 : Int32} {s0 : Int32} {s1 : Int32} {s2 : Nat} {σ : lm_S} {r : Except Nat lm_R × lm_S} (h : lm_q254_156 sc (lm_cal sc d) (lm_rn sc d lm_m254.2.2.2.2.1 (lm_reg lm_m254.2.2.2.2.2)) x0 x3 x4 s0 s1 s2 σ = some r) : lm_rn sc d lm_m254.2.2.2.2.1 (lm_reg lm_m254.2.2.2.2.2) (156, [(0, .ref x0), (3, .int x3), (4, .int x4)], [.int s0, .int s1, .ref s2]) σ = some r := lm_rn_of h
/-- LatticeSuite$Dsa.recover, from 0 on -/
noncomputable def lm_q255_0 (sc : lm_H) (A : Nat → List Value → lm_M lm_R) (B : lm_F → lm_M lm_R) (x0 : Nat) (x1 : Int32) (x2 : Nat) : lm_M lm_R :=
  lm_bind (lm_gR 3638 x0) fun v1 =>
  lm_bind (lm_asV (A 227 [.ref x2, .int ((Int32.ofInt 32) + ((Int32.ofInt 320) * x1)), .int (Int32.ofInt 10), .ref v1])) fun _ =>
  B (20, [(0, .ref x0), (1, .int x1), (3, .int (Int32.ofInt 0))], [])
set_option maxRecDepth 100000 in
theorem lm_e255_0 {sc : lm_H} {d : Nat} {x0 : Nat} {x1 : Int32} {x2 : Nat} {σ : lm_S} {r : Except Nat lm_R × lm_S} (h : lm_q255_0 sc (lm_cal sc d) (lm_rn sc d lm_m255.2.2.2.2.1 (lm_reg lm_m255.2.2.2.2.2)) x0 x1 x2  σ = some r) : lm_rn sc d lm_m255.2.2.2.2.1 (lm_reg lm_m255.2.2.2.2.2) (0, [(0, .ref x0), (1, .int x1), (2, .ref x2)], []) σ = some r := lm_rn_of h
/-- LatticeSuite$Dsa.recover, from 20 on -/
noncomputable def lm_q255_20 (sc : lm_H) (A : Nat → List Value → lm_M lm_R) (B : lm_F → lm_M lm_R) (x0 : Nat) (x1 : Int32) (x3 : Int32) : lm_M lm_R :=
  lm_if .ge x3 (Int32.ofInt 256) (lm_bind (lm_gR 3638 x0) fun v1 =>
  lm_bind (lm_sel [(9, 236)] (some (.ref x0))) fun y2 =>
  lm_bind (lm_asV (A y2 [.ref x0, .ref v1])) fun _ =>
  lm_bind (lm_gR 3622 x0) fun v3 =>
  lm_bind (lm_gR 3630 x0) fun v4 =>
  lm_bind (lm_aaR sc v4 x1) fun v5 =>
  lm_bind (lm_sel [(9, 237)] (some (.ref x0))) fun y6 =>
  lm_bind (lm_asV (A y6 [.ref x0, .int x1, .ref v3, .ref v5])) fun _ =>
  B (69, [(0, .ref x0), (1, .int x1), (3, .int (Int32.ofInt 0))], [])) (lm_bind (lm_gR 3638 x0) fun v7 =>
  lm_bind (lm_iald sc v7 x3) fun v8 =>
  lm_bind (lm_iast v7 x3 (v8 <<< ((Int32.ofInt 13) &&& 31))) fun _ =>
  B (20, [(0, .ref x0), (1, .int x1), (3, .int (x3 + Int32.ofInt 1))], []))
set_option maxRecDepth 100000 in
theorem lm_e255_20 {sc : lm_H} {d : Nat} {x0 : Nat} {x1 : Int32} {x3 : Int32} {σ : lm_S} {r : Except Nat lm_R × lm_S} (h : lm_q255_20 sc (lm_cal sc d) (lm_rn sc d lm_m255.2.2.2.2.1 (lm_reg lm_m255.2.2.2.2.2)) x0 x1 x3  σ = some r) : lm_rn sc d lm_m255.2.2.2.2.1 (lm_reg lm_m255.2.2.2.2.2) (20, [(0, .ref x0), (1, .int x1), (3, .int x3)], []) σ = some r := lm_rn_of h
/-- LatticeSuite$Dsa.recover, from 69 on -/
noncomputable def lm_q255_69 (sc : lm_H) (A : Nat → List Value → lm_M lm_R) (B : lm_F → lm_M lm_R) (x0 : Nat) (x1 : Int32) (x3 : Int32) : lm_M lm_R :=
  lm_if .ge x3 (Int32.ofInt 256) (lm_bind (lm_gR 3630 x0) fun v1 =>
  lm_bind (lm_aaR sc v1 x1) fun v2 =>
  lm_bind (lm_sel [(9, 238)] (some (.ref x0))) fun y3 =>
  lm_bind (lm_asV (A y3 [.ref x0, .ref v2])) fun _ =>
  lm_ret none) (lm_bind (lm_gR 3630 x0) fun v4 =>
  lm_bind (lm_aaR sc v4 x1) fun v5 =>
  lm_bind (lm_gR 3630 x0) fun v6 =>
  lm_bind (lm_aaR sc v6 x1) fun v7 =>
  lm_bind (lm_iald sc v7 x3) fun v8 =>
  lm_bind (lm_gR 3634 x0) fun v9 =>
  lm_bind (lm_iald sc v9 x3) fun v10 =>
  lm_bind (lm_gR 3638 x0) fun v11 =>
  lm_bind (lm_iald sc v11 x3) fun v12 =>
  lm_when (¬ (Int64.ofNat 8380417) = 0) inferInstance (lm_bind (lm_iast v5 x3 (Int64.toInt32 (lm_remL ((Int32.toInt64 v8) - ((Int32.toInt64 v10) * (Int32.toInt64 v12))) (Int64.ofNat 8380417)))) fun _ =>
  B (69, [(0, .ref x0), (1, .int x1), (3, .int (x3 + Int32.ofInt 1))], [])))
set_option maxRecDepth 100000 in
theorem lm_e255_69 {sc : lm_H} {d : Nat} {x0 : Nat} {x1 : Int32} {x3 : Int32} {σ : lm_S} {r : Except Nat lm_R × lm_S} (h : lm_q255_69 sc (lm_cal sc d) (lm_rn sc d lm_m255.2.2.2.2.1 (lm_reg lm_m255.2.2.2.2.2)) x0 x1 x3  σ = some r) : lm_rn sc d lm_m255.2.2.2.2.1 (lm_reg lm_m255.2.2.2.2.2) (69, [(0, .ref x0), (1, .int x1), (3, .int x3)], []) σ = some r := lm_rn_of h
/-- LatticeSuite$Dsa.applyHints, from 0 on -/
noncomputable def lm_q256_0 (sc : lm_H) (A : Nat → List Value → lm_M lm_R) (B : lm_F → lm_M lm_R) (x0 : Nat) (x1 : Nat) : lm_M lm_R :=
  lm_bind (lm_gI 3668 x0) fun v1 =>
  lm_bind (lm_iald sc (lm_B + 15) v1) fun v2 =>
  lm_bind (lm_sel [(9, 248)] (some (.ref x0))) fun y3 =>
  lm_bind (lm_asI (A y3 [.ref x0])) fun v4 =>
  lm_bind (lm_gI 3672 x0) fun v5 =>
  lm_bind (lm_gI 3668 x0) fun v6 =>
  lm_bind (lm_iald sc (lm_B + 12) v6) fun v7 =>
  lm_when (¬ v7 = 0) inferInstance (B (41, [(0, .ref x0), (1, .ref x1), (2, .int v2), (3, .int ((v4 - v2) - v5)), (4, .int ((Int32.ofInt 4190208) / v7)), (5, .int (Int32.ofInt 0)), (6, .int (Int32.ofInt 0))], []))
set_option maxRecDepth 100000 in
theorem lm_e256_0 {sc : lm_H} {d : Nat} {x0 : Nat} {x1 : Nat} {σ : lm_S} {r : Except Nat lm_R × lm_S} (h : lm_q256_0 sc (lm_cal sc d) (lm_rn sc d lm_m256.2.2.2.2.1 (lm_reg lm_m256.2.2.2.2.2)) x0 x1  σ = some r) : lm_rn sc d lm_m256.2.2.2.2.1 (lm_reg lm_m256.2.2.2.2.2) (0, [(0, .ref x0), (1, .ref x1)], []) σ = some r := lm_rn_of h
/-- LatticeSuite$Dsa.applyHints, from 41 on -/
noncomputable def lm_q256_41 (sc : lm_H) (A : Nat → List Value → lm_M lm_R) (B : lm_F → lm_M lm_R) (x0 : Nat) (x1 : Nat) (x2 : Int32) (x3 : Int32) (x4 : Int32) (x5 : Int32) (x6 : Int32) : lm_M lm_R :=
  lm_bind (lm_gI 3672 x0) fun v1 =>
  lm_if .ge x6 v1 (lm_ret none) (lm_bind (lm_bald sc x1 ((x3 + x2) + x6)) fun v2 =>
  B (67, [(0, .ref x0), (1, .ref x1), (2, .int x2), (3, .int x3), (4, .int x4), (5, .int x5), (6, .int x6), (7, .int (v2 &&& (Int32.ofInt 255))), (8, .int (Int32.ofInt 0))], []))
set_option maxRecDepth 100000 in
theorem lm_e256_41 {sc : lm_H} {d : Nat} {x0 : Nat} {x1 : Nat} {x2 : Int32} {x3 : Int32} {x4 : Int32} {x5 : Int32} {x6 : Int32} {σ : lm_S} {r : Except Nat lm_R × lm_S} (h : lm_q256_41 sc (lm_cal sc d) (lm_rn sc d lm_m256.2.2.2.2.1 (lm_reg lm_m256.2.2.2.2.2)) x0 x1 x2 x3 x4 x5 x6  σ = some r) : lm_rn sc d lm_m256.2.2.2.2.1 (lm_reg lm_m256.2.2.2.2.2) (41, [(0, .ref x0), (1, .ref x1), (2, .int x2), (3, .int x3), (4, .int x4), (5, .int x5), (6, .int x6)], []) σ = some r := lm_rn_of h
/-- LatticeSuite$Dsa.applyHints, from 67 on -/
noncomputable def lm_q256_67 (sc : lm_H) (A : Nat → List Value → lm_M lm_R) (B : lm_F → lm_M lm_R) (x0 : Nat) (x1 : Nat) (x2 : Int32) (x3 : Int32) (x4 : Int32) (x5 : Int32) (x6 : Int32) (x7 : Int32) (x8 : Int32) : lm_M lm_R :=
  lm_if .ge x8 (Int32.ofInt 256) (B (41, [(0, .ref x0), (1, .ref x1), (2, .int x2), (3, .int x3), (4, .int x4), (5, .int x5), (6, .int (x6 + Int32.ofInt 1))], [])) (lm_bind (lm_gR 3630 x0) fun v1 =>
  lm_bind (lm_aaR sc v1 x6) fun v2 =>
  lm_bind (lm_iald sc v2 x8) fun v3 =>
  lm_bind (lm_gR 3630 x0) fun v4 =>
  lm_bind (lm_aaR sc v4 x6) fun v5 =>
  lm_bind (lm_sel [(9, 301)] (some (.ref x0))) fun y6 =>
  lm_bind (lm_asI (A y6 [.ref x0, .int v3])) fun v7 =>
  lm_bind (lm_iast v5 x8 v7) fun _ =>
  lm_if .ge x5 x7 (B (164, [(0, .ref x0), (1, .ref x1), (2, .int x2), (3, .int x3), (4, .int x4), (5, .int x5), (6, .int x6), (7, .int x7), (8, .int x8)], [])) (lm_bind (lm_bald sc x1 (x3 + x5)) fun v8 =>
  lm_if .ne (v8 &&& (Int32.ofInt 255)) x8 (B (164, [(0, .ref x0), (1, .ref x1), (2, .int x2), (3, .int x3), (4, .int x4), (5, .int x5), (6, .int x6), (7, .int x7), (8, .int x8)], [])) (lm_bind (lm_gR 3630 x0) fun v9 =>
  lm_bind (lm_aaR sc v9 x6) fun v10 =>
  lm_bind (lm_sel [(9, 301)] (some (.ref x0))) fun y11 =>
  lm_bind (lm_asI (A y11 [.ref x0, .int v3])) fun v12 =>
  lm_bind (lm_sel [(9, 302)] (some (.ref x0))) fun y13 =>
  lm_bind (lm_asI (A y13 [.ref x0, .int v3])) fun v14 =>
  lm_if .le v14 0 (B (154, [(0, .ref x0), (1, .ref x1), (2, .int x2), (3, .int x3), (4, .int x4), (5, .int x5), (6, .int x6), (7, .int x7), (8, .int x8)], [.int (Int32.ofInt (-1)), .int v12, .int x8, .ref v10])) (B (154, [(0, .ref x0), (1, .ref x1), (2, .int x2), (3, .int x3), (4, .int x4), (5, .int x5), (6, .int x6), (7, .int x7), (8, .int x8)], [.int (Int32.ofInt 1), .int v12, .int x8, .ref v10])))))
set_option maxRecDepth 100000 in
theorem lm_e256_67 {sc : lm_H} {d : Nat} {x0 : Nat} {x1 : Nat} {x2 : Int32} {x3 : Int32} {x4 : Int32} {x5 : Int32} {x6 : Int32} {x7 : Int32} {x8 : Int32} {σ : lm_S} {r : Except Nat lm_R × lm_S} (h : lm_q256_67 sc (lm_cal sc d) (lm_rn sc d lm_m256.2.2.2.2.1 (lm_reg lm_m256.2.2.2.2.2)) x0 x1 x2 x3 x4 x5 x6 x7 x8  σ = some r) : lm_rn sc d lm_m256.2.2.2.2.1 (lm_reg lm_m256.2.2.2.2.2) (67, [(0, .ref x0), (1, .ref x1), (2, .int x2), (3, .int x3), (4, .int x4), (5, .int x5), (6, .int x6), (7, .int x7), (8, .int x8)], []) σ = some r := lm_rn_of h
/-- LatticeSuite$Dsa.applyHints, from 164 on -/
noncomputable def lm_q256_164 (sc : lm_H) (A : Nat → List Value → lm_M lm_R) (B : lm_F → lm_M lm_R) (x0 : Nat) (x1 : Nat) (x2 : Int32) (x3 : Int32) (x4 : Int32) (x5 : Int32) (x6 : Int32) (x7 : Int32) (x8 : Int32) : lm_M lm_R :=
  B (67, [(0, .ref x0), (1, .ref x1), (2, .int x2), (3, .int x3), (4, .int x4), (5, .int x5), (6, .int x6), (7, .int x7), (8, .int (x8 + Int32.ofInt 1))], [])
set_option maxRecDepth 100000 in
theorem lm_e256_164 {sc : lm_H} {d : Nat} {x0 : Nat} {x1 : Nat} {x2 : Int32} {x3 : Int32} {x4 : Int32} {x5 : Int32} {x6 : Int32} {x7 : Int32} {x8 : Int32} {σ : lm_S} {r : Except Nat lm_R × lm_S} (h : lm_q256_164 sc (lm_cal sc d) (lm_rn sc d lm_m256.2.2.2.2.1 (lm_reg lm_m256.2.2.2.2.2)) x0 x1 x2 x3 x4 x5 x6 x7 x8  σ = some r) : lm_rn sc d lm_m256.2.2.2.2.1 (lm_reg lm_m256.2.2.2.2.2) (164, [(0, .ref x0), (1, .ref x1), (2, .int x2), (3, .int x3), (4, .int x4), (5, .int x5), (6, .int x6), (7, .int x7), (8, .int x8)], []) σ = some r := lm_rn_of h
/-- LatticeSuite$Dsa.applyHints, from 154 on -/
noncomputable def lm_q256_154 (sc : lm_H) (A : Nat → List Value → lm_M lm_R) (B : lm_F → lm_M lm_R) (x0 : Nat) (x1 : Nat) (x2 : Int32) (x3 : Int32) (x4 : Int32) (x5 : Int32) (x6 : Int32) (x7 : Int32) (x8 : Int32) (s0 : Int32) (s1 : Int32) (s2 : Int32) (s3 : Nat) : lm_M lm_R :=
  lm_bind (lm_asI (A 286 [.int (s1 + s0), .int x4])) fun v1 =>
  lm_bind (lm_iast s3 s2 v1) fun _ =>
  B (164, [(0, .ref x0), (1, .ref x1), (2, .int x2), (3, .int x3), (4, .int x4), (5, .int (x5 + Int32.ofInt 1)), (6, .int x6), (7, .int x7), (8, .int x8)], [])
set_option maxRecDepth 100000 in
theorem lm_e256_154 {sc : lm_H} {d : Nat} {x0 : Nat} {x1 : Nat} {x2 : Int32} {x3 : Int32} {x4 : Int32} {x5 : Int32} {x6 : Int32} {x7 : Int32} {x8 : Int32} {s0 : Int32} {s1 : Int32} {s2 : Int32} {s3 : Nat} {σ : lm_S} {r : Except Nat lm_R × lm_S} (h : lm_q256_154 sc (lm_cal sc d) (lm_rn sc d lm_m256.2.2.2.2.1 (lm_reg lm_m256.2.2.2.2.2)) x0 x1 x2 x3 x4 x5 x6 x7 x8 s0 s1 s2 s3 σ = some r) : lm_rn sc d lm_m256.2.2.2.2.1 (lm_reg lm_m256.2.2.2.2.2) (154, [(0, .ref x0), (1, .ref x1), (2, .int x2), (3, .int x3), (4, .int x4), (5, .int x5), (6, .int x6), (7, .int x7), (8, .int x8)], [.int s0, .int s1, .int s2, .ref s3]) σ = some r := lm_rn_of h
/-- LatticeSuite$Dsa.highBits, from 0 on -/
noncomputable def lm_q257_0 (sc : lm_H) (A : Nat → List Value → lm_M lm_R) (B : lm_F → lm_M lm_R) (x0 : Nat) : lm_M lm_R :=
  lm_bind (lm_gI 3668 x0) fun v1 =>
  lm_if .ne v1 0 (lm_ret (some (.int (Int32.ofInt 4)))) (lm_ret (some (.int (Int32.ofInt 6))))
set_option maxRecDepth 100000 in
theorem lm_e257_0 {sc : lm_H} {d : Nat} {x0 : Nat} {σ : lm_S} {r : Except Nat lm_R × lm_S} (h : lm_q257_0 sc (lm_cal sc d) (lm_rn sc d lm_m257.2.2.2.2.1 (lm_reg lm_m257.2.2.2.2.2)) x0  σ = some r) : lm_rn sc d lm_m257.2.2.2.2.1 (lm_reg lm_m257.2.2.2.2.2) (0, [(0, .ref x0)], []) σ = some r := lm_rn_of h
/-- LatticeSuite$Slh.randomize, from 0 on -/
noncomputable def lm_q258_0 (sc : lm_H) (A : Nat → List Value → lm_M lm_R) (B : lm_F → lm_M lm_R) (x0 : Nat) (x1 : Nat) (x2 : Nat) (x3 : Int32) (x4 : Nat) (x5 : Nat) : lm_M lm_R :=
  lm_bind (lm_gI 4015 x0) fun v1 =>
  lm_if .eq v1 0 (lm_bind (lm_gR 4002 x0) fun v2 =>
  lm_bind (lm_gI 4044 x0) fun v3 =>
  lm_bind (lm_gI 4016 x0) fun v4 =>
  lm_bind (lm_gI 4016 x0) fun v5 =>
  lm_bind (lm_sel [(2, 138)] (some (.ref v2))) fun y6 =>
  lm_bind (lm_asR (A y6 [.ref v2, .int v3, .ref x1, .int v4, .int v5])) fun v7 =>
  lm_bind (lm_gI 4016 x0) fun v8 =>
  lm_bind (lm_sel [(5, 140), (6, 140), (7, 140)] (some (.ref v7))) fun y9 =>
  lm_bind (lm_asV (A y9 [.ref v7, .ref x2, .int x3, .int v8])) fun _ =>
  lm_bind (lm_sel [(4, 295)] (some (.ref x4))) fun y10 =>
  lm_bind (lm_asV (A y10 [.ref x4, .ref v7])) fun _ =>
  lm_bind (lm_gR 4002 x0) fun v11 =>
  lm_bind (lm_gI 4044 x0) fun v12 =>
  lm_bind (lm_gI 4016 x0) fun v13 =>
  lm_bind (lm_sel [(2, 141)] (some (.ref v11))) fun y14 =>
  lm_bind (lm_asV (A y14 [.ref v11, .int v12, .ref x5, .int (Int32.ofInt 0), .int v13])) fun _ =>
  lm_ret none) (lm_bind (lm_gR 4002 x0) fun v15 =>
  lm_bind (lm_sel [(2, 139)] (some (.ref v15))) fun y16 =>
  lm_bind (lm_asR (A y16 [.ref v15, .int (Int32.ofInt 12)])) fun v17 =>
  lm_bind (lm_gI 4016 x0) fun v18 =>
  lm_bind (lm_gI 4016 x0) fun v19 =>
  lm_bind (lm_sel [(5, 140), (6, 140), (7, 140)] (some (.ref v17))) fun y20 =>
  lm_bind (lm_asV (A y20 [.ref v17, .ref x1, .int v18, .int v19])) fun _ =>
  lm_bind (lm_gI 4016 x0) fun v21 =>
  lm_bind (lm_sel [(5, 140), (6, 140), (7, 140)] (some (.ref v17))) fun y22 =>
  lm_bind (lm_asV (A y22 [.ref v17, .ref x2, .int x3, .int v21])) fun _ =>
  lm_bind (lm_sel [(4, 295)] (some (.ref x4))) fun y23 =>
  lm_bind (lm_asV (A y23 [.ref x4, .ref v17])) fun _ =>
  lm_bind (lm_gI 4016 x0) fun v24 =>
  lm_bind (lm_sel [(5, 143), (6, 144), (7, 145)] (some (.ref v17))) fun y25 =>
  lm_bind (lm_asV (A y25 [.ref v17, .ref x5, .int (Int32.ofInt 0), .int v24])) fun _ =>
  lm_ret none)
set_option maxRecDepth 100000 in
theorem lm_e258_0 {sc : lm_H} {d : Nat} {x0 : Nat} {x1 : Nat} {x2 : Nat} {x3 : Int32} {x4 : Nat} {x5 : Nat} {σ : lm_S} {r : Except Nat lm_R × lm_S} (h : lm_q258_0 sc (lm_cal sc d) (lm_rn sc d lm_m258.2.2.2.2.1 (lm_reg lm_m258.2.2.2.2.2)) x0 x1 x2 x3 x4 x5  σ = some r) : lm_rn sc d lm_m258.2.2.2.2.1 (lm_reg lm_m258.2.2.2.2.2) (0, [(0, .ref x0), (1, .ref x1), (2, .ref x2), (3, .int x3), (4, .ref x4), (5, .ref x5)], []) σ = some r := lm_rn_of h
/-- LatticeSuite$Slh.choosePlaces, from 0 on -/
noncomputable def lm_q259_0 (sc : lm_H) (A : Nat → List Value → lm_M lm_R) (B : lm_F → lm_M lm_R) (x0 : Nat) (x1 : Nat) (x2 : Nat) (x3 : Int32) (x4 : Nat) : lm_M lm_R :=
  lm_bind (lm_gR 4002 x0) fun v1 =>
  lm_bind (lm_gI 4044 x0) fun v2 =>
  lm_bind (lm_sel [(2, 139)] (some (.ref v1))) fun y3 =>
  lm_bind (lm_asR (A y3 [.ref v1, .int v2])) fun v4 =>
  lm_bind (lm_gI 4016 x0) fun v5 =>
  lm_bind (lm_sel [(5, 140), (6, 140), (7, 140)] (some (.ref v4))) fun y6 =>
  lm_bind (lm_asV (A y6 [.ref v4, .ref x1, .int (Int32.ofInt 0), .int v5])) fun _ =>
  lm_bind (lm_gI 4016 x0) fun v7 =>
  lm_bind (lm_sel [(5, 140), (6, 140), (7, 140)] (some (.ref v4))) fun y8 =>
  lm_bind (lm_asV (A y8 [.ref v4, .ref x2, .int x3, .int ((Int32.ofInt 2) * v7)])) fun _ =>
  lm_bind (lm_sel [(4, 295)] (some (.ref x4))) fun y9 =>
  lm_bind (lm_asV (A y9 [.ref x4, .ref v4])) fun _ =>
  lm_bind (lm_sel [(10, 303)] (some (.ref x0))) fun y10 =>
  lm_bind (lm_asI (A y10 [.ref x0])) fun v11 =>
  lm_bind (lm_sel [(10, 304)] (some (.ref x0))) fun y12 =>
  lm_bind (lm_asI (A y12 [.ref x0])) fun v13 =>
  lm_bind (lm_gI 4015 x0) fun v14 =>
  lm_if .eq v14 0 (lm_bind (lm_gR 4062 x0) fun v15 =>
  lm_bind (lm_gI 4044 x0) fun v16 =>
  lm_bind (lm_iald sc (lm_B + 1) v16) fun v17 =>
  lm_bind (lm_sel [(5, 143), (6, 144), (7, 145)] (some (.ref v4))) fun y18 =>
  lm_bind (lm_asV (A y18 [.ref v4, .ref v15, .int (Int32.ofInt 0), .int v17])) fun _ =>
  lm_bind (lm_gI 4044 x0) fun v19 =>
  lm_bind (lm_sel [(5, 200), (6, 201), (7, 202)] (some (.ref v4))) fun y20 =>
  lm_bind (lm_asV (A y20 [.ref v4, .int v19])) fun _ =>
  lm_bind (lm_gI 4016 x0) fun v21 =>
  lm_bind (lm_sel [(5, 140), (6, 140), (7, 140)] (some (.ref v4))) fun y22 =>
  lm_bind (lm_asV (A y22 [.ref v4, .ref x1, .int (Int32.ofInt 0), .int v21])) fun _ =>
  lm_bind (lm_gI 4016 x0) fun v23 =>
  lm_bind (lm_sel [(5, 140), (6, 140), (7, 140)] (some (.ref v4))) fun y24 =>
  lm_bind (lm_asV (A y24 [.ref v4, .ref x2, .int x3, .int v23])) fun _ =>
  lm_bind (lm_gR 4062 x0) fun v25 =>
  lm_bind (lm_gI 4044 x0) fun v26 =>
  lm_bind (lm_iald sc (lm_B + 1) v26) fun v27 =>
  lm_bind (lm_sel [(5, 140), (6, 140), (7, 140)] (some (.ref v4))) fun y28 =>
  lm_bind (lm_asV (A y28 [.ref v4, .ref v25, .int (Int32.ofInt 0), .int v27])) fun _ =>
  lm_bind (lm_gR 4002 x0) fun v29 =>
  lm_bind (lm_gI 4044 x0) fun v30 =>
  lm_bind (lm_gR 4074 x0) fun v31 =>
  lm_bind (lm_sel [(2, 142)] (some (.ref v29))) fun y32 =>
  lm_bind (lm_asV (A y32 [.ref v29, .int v30, .ref v31, .int ((v11 + v13) + (Int32.ofInt 2))])) fun _ =>
  lm_ret none) (lm_bind (lm_gR 4074 x0) fun v33 =>
  lm_bind (lm_sel [(5, 143), (6, 144), (7, 145)] (some (.ref v4))) fun y34 =>
  lm_bind (lm_asV (A y34 [.ref v4, .ref v33, .int (Int32.ofInt 0), .int ((v11 + v13) + (Int32.ofInt 2))])) fun _ =>
  lm_ret none)
set_option maxRecDepth 100000 in
theorem lm_e259_0 {sc : lm_H} {d : Nat} {x0 : Nat} {x1 : Nat} {x2 : Nat} {x3 : Int32} {x4 : Nat} {σ : lm_S} {r : Except Nat lm_R × lm_S} (h : lm_q259_0 sc (lm_cal sc d) (lm_rn sc d lm_m259.2.2.2.2.1 (lm_reg lm_m259.2.2.2.2.2)) x0 x1 x2 x3 x4  σ = some r) : lm_rn sc d lm_m259.2.2.2.2.1 (lm_reg lm_m259.2.2.2.2.2) (0, [(0, .ref x0), (1, .ref x1), (2, .ref x2), (3, .int x3), (4, .ref x4)], []) σ = some r := lm_rn_of h
/-- LatticeSuite$Slh.chosenLeaf, from 0 on -/
noncomputable def lm_q260_0 (sc : lm_H) (A : Nat → List Value → lm_M lm_R) (B : lm_F → lm_M lm_R) (x0 : Nat) : lm_M lm_R :=
  lm_bind (lm_sel [(10, 303)] (some (.ref x0))) fun y1 =>
  lm_bind (lm_asI (A y1 [.ref x0])) fun v2 =>
  lm_bind (lm_sel [(10, 304)] (some (.ref x0))) fun y3 =>
  lm_bind (lm_asI (A y3 [.ref x0])) fun v4 =>
  B (14, [(0, .ref x0), (1, .int (v2 + v4)), (2, .int (Int32.ofInt 0)), (3, .int (Int32.ofInt 0))], [])
set_option maxRecDepth 100000 in
theorem lm_e260_0 {sc : lm_H} {d : Nat} {x0 : Nat} {σ : lm_S} {r : Except Nat lm_R × lm_S} (h : lm_q260_0 sc (lm_cal sc d) (lm_rn sc d lm_m260.2.2.2.2.1 (lm_reg lm_m260.2.2.2.2.2)) x0  σ = some r) : lm_rn sc d lm_m260.2.2.2.2.1 (lm_reg lm_m260.2.2.2.2.2) (0, [(0, .ref x0)], []) σ = some r := lm_rn_of h
/-- LatticeSuite$Slh.chosenLeaf, from 14 on -/
noncomputable def lm_q260_14 (sc : lm_H) (A : Nat → List Value → lm_M lm_R) (B : lm_F → lm_M lm_R) (x0 : Nat) (x1 : Int32) (x2 : Int32) (x3 : Int32) : lm_M lm_R :=
  lm_bind (lm_gI 4024 x0) fun v1 =>
  lm_when (¬ (Int32.ofInt 8) = 0) inferInstance (lm_if .ge x3 ((v1 + (Int32.ofInt 7)) / (Int32.ofInt 8)) (lm_bind (lm_gI 4024 x0) fun v2 =>
  lm_ret (some (.int (x2 &&& (((Int32.ofInt 1) <<< (v2 &&& 31)) - (Int32.ofInt 1)))))) (lm_bind (lm_gR 4074 x0) fun v3 =>
  lm_bind (lm_bald sc v3 (x1 + x3)) fun v4 =>
  B (14, [(0, .ref x0), (1, .int x1), (2, .int ((x2 <<< ((Int32.ofInt 8) &&& 31)) ||| (v4 &&& (Int32.ofInt 255)))), (3, .int (x3 + Int32.ofInt 1))], [])))
set_option maxRecDepth 100000 in
theorem lm_e260_14 {sc : lm_H} {d : Nat} {x0 : Nat} {x1 : Int32} {x2 : Int32} {x3 : Int32} {σ : lm_S} {r : Except Nat lm_R × lm_S} (h : lm_q260_14 sc (lm_cal sc d) (lm_rn sc d lm_m260.2.2.2.2.1 (lm_reg lm_m260.2.2.2.2.2)) x0 x1 x2 x3  σ = some r) : lm_rn sc d lm_m260.2.2.2.2.1 (lm_reg lm_m260.2.2.2.2.2) (14, [(0, .ref x0), (1, .int x1), (2, .int x2), (3, .int x3)], []) σ = some r := lm_rn_of h
/-- LatticeSuite$Slh.chosenTree, from 0 on -/
noncomputable def lm_q261_0 (sc : lm_H) (A : Nat → List Value → lm_M lm_R) (B : lm_F → lm_M lm_R) (x0 : Nat) : lm_M lm_R :=
  B (4, [(0, .ref x0), (1, .long (Int64.ofNat 0)), (3, .int (Int32.ofInt 0))], [])
set_option maxRecDepth 100000 in
theorem lm_e261_0 {sc : lm_H} {d : Nat} {x0 : Nat} {σ : lm_S} {r : Except Nat lm_R × lm_S} (h : lm_q261_0 sc (lm_cal sc d) (lm_rn sc d lm_m261.2.2.2.2.1 (lm_reg lm_m261.2.2.2.2.2)) x0  σ = some r) : lm_rn sc d lm_m261.2.2.2.2.1 (lm_reg lm_m261.2.2.2.2.2) (0, [(0, .ref x0)], []) σ = some r := lm_rn_of h
/-- LatticeSuite$Slh.chosenTree, from 4 on -/
noncomputable def lm_q261_4 (sc : lm_H) (A : Nat → List Value → lm_M lm_R) (B : lm_F → lm_M lm_R) (x0 : Nat) (x1 : Int64) (x3 : Int32) : lm_M lm_R :=
  lm_bind (lm_sel [(10, 304)] (some (.ref x0))) fun y1 =>
  lm_bind (lm_asI (A y1 [.ref x0])) fun v2 =>
  lm_if .ge x3 v2 (lm_bind (lm_gI 4040 x0) fun v3 =>
  lm_bind (lm_gI 4040 x0) fun v4 =>
  lm_ret (some (.long (lm_uL (x1 <<< ((Int32.toInt64 ((Int32.ofInt 64) - v3)) &&& 63)) ((Int32.ofInt 64) - v4))))) (lm_bind (lm_gR 4074 x0) fun v5 =>
  lm_bind (lm_sel [(10, 303)] (some (.ref x0))) fun y6 =>
  lm_bind (lm_asI (A y6 [.ref x0])) fun v7 =>
  lm_bind (lm_bald sc v5 (v7 + x3)) fun v8 =>
  B (4, [(0, .ref x0), (1, .long ((x1 <<< ((Int32.toInt64 (Int32.ofInt 8)) &&& 63)) ||| (Int32.toInt64 (v8 &&& (Int32.ofInt 255))))), (3, .int (x3 + Int32.ofInt 1))], []))
set_option maxRecDepth 100000 in
theorem lm_e261_4 {sc : lm_H} {d : Nat} {x0 : Nat} {x1 : Int64} {x3 : Int32} {σ : lm_S} {r : Except Nat lm_R × lm_S} (h : lm_q261_4 sc (lm_cal sc d) (lm_rn sc d lm_m261.2.2.2.2.1 (lm_reg lm_m261.2.2.2.2.2)) x0 x1 x3  σ = some r) : lm_rn sc d lm_m261.2.2.2.2.1 (lm_reg lm_m261.2.2.2.2.2) (4, [(0, .ref x0), (1, .long x1), (3, .int x3)], []) σ = some r := lm_rn_of h
/-- LatticeSuite$Slh.chosenForestLeaf, from 0 on -/
noncomputable def lm_q262_0 (sc : lm_H) (A : Nat → List Value → lm_M lm_R) (B : lm_F → lm_M lm_R) (x0 : Nat) (x1 : Int32) : lm_M lm_R :=
  lm_bind (lm_gI 4028 x0) fun v1 =>
  B (9, [(0, .ref x0), (1, .int x1), (2, .int x1), (3, .int (x1 * v1))], [])
set_option maxRecDepth 100000 in
theorem lm_e262_0 {sc : lm_H} {d : Nat} {x0 : Nat} {x1 : Int32} {σ : lm_S} {r : Except Nat lm_R × lm_S} (h : lm_q262_0 sc (lm_cal sc d) (lm_rn sc d lm_m262.2.2.2.2.1 (lm_reg lm_m262.2.2.2.2.2)) x0 x1  σ = some r) : lm_rn sc d lm_m262.2.2.2.2.1 (lm_reg lm_m262.2.2.2.2.2) (0, [(0, .ref x0), (1, .int x1)], []) σ = some r := lm_rn_of h
/-- LatticeSuite$Slh.chosenForestLeaf, from 9 on -/
noncomputable def lm_q262_9 (sc : lm_H) (A : Nat → List Value → lm_M lm_R) (B : lm_F → lm_M lm_R) (x0 : Nat) (x1 : Int32) (x2 : Int32) (x3 : Int32) : lm_M lm_R :=
  lm_bind (lm_gI 4028 x0) fun v1 =>
  lm_if .ge x3 ((x1 + (Int32.ofInt 1)) * v1) (lm_ret (some (.int x2))) (lm_bind (lm_gR 4074 x0) fun v2 =>
  lm_bind (lm_bald sc v2 (x3 >>> ((Int32.ofInt 3) &&& 31))) fun v3 =>
  B (9, [(0, .ref x0), (1, .int x1), (2, .int ((x2 <<< ((Int32.ofInt 1) &&& 31)) ||| ((v3 >>> (((Int32.ofInt 7) - (x3 &&& (Int32.ofInt 7))) &&& 31)) &&& (Int32.ofInt 1)))), (3, .int (x3 + Int32.ofInt 1))], []))
set_option maxRecDepth 100000 in
theorem lm_e262_9 {sc : lm_H} {d : Nat} {x0 : Nat} {x1 : Int32} {x2 : Int32} {x3 : Int32} {σ : lm_S} {r : Except Nat lm_R × lm_S} (h : lm_q262_9 sc (lm_cal sc d) (lm_rn sc d lm_m262.2.2.2.2.1 (lm_reg lm_m262.2.2.2.2.2)) x0 x1 x2 x3  σ = some r) : lm_rn sc d lm_m262.2.2.2.2.1 (lm_reg lm_m262.2.2.2.2.2) (9, [(0, .ref x0), (1, .int x1), (2, .int x2), (3, .int x3)], []) σ = some r := lm_rn_of h
/-- LatticeSuite$Slh.name, from 0 on -/
noncomputable def lm_q263_0 (sc : lm_H) (A : Nat → List Value → lm_M lm_R) (B : lm_F → lm_M lm_R) (x0 : Nat) (x1 : Int32) (x2 : Int32) (x3 : Int32) (x4 : Int32) : lm_M lm_R :=
  lm_bind (lm_gI 4015 x0) fun v1 =>
  lm_if .eq v1 0 (B (14, [(0, .ref x0), (1, .int x1), (2, .int x2), (3, .int x3), (4, .int x4)], [.int (Int32.ofInt 9)])) (B (14, [(0, .ref x0), (1, .int x1), (2, .int x2), (3, .int x3), (4, .int x4)], [.int (Int32.ofInt 19)]))
set_option maxRecDepth 100000 in
theorem lm_e263_0 {sc : lm_H} {d : Nat} {x0 : Nat} {x1 : Int32} {x2 : Int32} {x3 : Int32} {x4 : Int32} {σ : lm_S} {r : Except Nat lm_R × lm_S} (h : lm_q263_0 sc (lm_cal sc d) (lm_rn sc d lm_m263.2.2.2.2.1 (lm_reg lm_m263.2.2.2.2.2)) x0 x1 x2 x3 x4  σ = some r) : lm_rn sc d lm_m263.2.2.2.2.1 (lm_reg lm_m263.2.2.2.2.2) (0, [(0, .ref x0), (1, .int x1), (2, .int x2), (3, .int x3), (4, .int x4)], []) σ = some r := lm_rn_of h
/-- LatticeSuite$Slh.name, from 14 on -/
noncomputable def lm_q263_14 (sc : lm_H) (A : Nat → List Value → lm_M lm_R) (B : lm_F → lm_M lm_R) (x0 : Nat) (x1 : Int32) (x2 : Int32) (x3 : Int32) (x4 : Int32) (s0 : Int32) : lm_M lm_R :=
  lm_bind (lm_gR 4050 x0) fun v1 =>
  lm_bind (lm_bast v1 s0 (lm_b8 x1)) fun _ =>
  lm_bind (lm_gR 4050 x0) fun v2 =>
  lm_bind (lm_asV (A 131 [.int x2, .ref v2, .int (s0 + (Int32.ofInt 1))])) fun _ =>
  lm_bind (lm_gR 4050 x0) fun v3 =>
  lm_bind (lm_asV (A 131 [.int x3, .ref v3, .int (s0 + (Int32.ofInt 5))])) fun _ =>
  lm_bind (lm_gR 4050 x0) fun v4 =>
  lm_bind (lm_asV (A 131 [.int x4, .ref v4, .int (s0 + (Int32.ofInt 9))])) fun _ =>
  lm_ret none
set_option maxRecDepth 100000 in
theorem lm_e263_14 {sc : lm_H} {d : Nat} {x0 : Nat} {x1 : Int32} {x2 : Int32} {x3 : Int32} {x4 : Int32} {s0 : Int32} {σ : lm_S} {r : Except Nat lm_R × lm_S} (h : lm_q263_14 sc (lm_cal sc d) (lm_rn sc d lm_m263.2.2.2.2.1 (lm_reg lm_m263.2.2.2.2.2)) x0 x1 x2 x3 x4 s0 σ = some r) : lm_rn sc d lm_m263.2.2.2.2.1 (lm_reg lm_m263.2.2.2.2.2) (14, [(0, .ref x0), (1, .int x1), (2, .int x2), (3, .int x3), (4, .int x4)], [.int s0]) σ = some r := lm_rn_of h
/-- LatticeSuite$Slh.hash, from 0 on -/
noncomputable def lm_q264_0 (sc : lm_H) (A : Nat → List Value → lm_M lm_R) (B : lm_F → lm_M lm_R) (x0 : Nat) (x1 : Nat) (x2 : Int32) (x3 : Int32) (x4 : Nat) (x5 : Int32) : lm_M lm_R :=
  lm_bind (lm_gI 4016 x0) fun v1 =>
  lm_if .le x3 v1 (lm_bind (lm_gR 4006 x0) fun v2 =>
  B (19, [(0, .ref x0), (1, .ref x1), (2, .int x2), (3, .int x3), (4, .ref x4), (5, .int x5)], [.ref v2])) (lm_bind (lm_gR 4010 x0) fun v3 =>
  B (19, [(0, .ref x0), (1, .ref x1), (2, .int x2), (3, .int x3), (4, .ref x4), (5, .int x5)], [.ref v3]))
set_option maxRecDepth 100000 in
theorem lm_e264_0 {sc : lm_H} {d : Nat} {x0 : Nat} {x1 : Nat} {x2 : Int32} {x3 : Int32} {x4 : Nat} {x5 : Int32} {σ : lm_S} {r : Except Nat lm_R × lm_S} (h : lm_q264_0 sc (lm_cal sc d) (lm_rn sc d lm_m264.2.2.2.2.1 (lm_reg lm_m264.2.2.2.2.2)) x0 x1 x2 x3 x4 x5  σ = some r) : lm_rn sc d lm_m264.2.2.2.2.1 (lm_reg lm_m264.2.2.2.2.2) (0, [(0, .ref x0), (1, .ref x1), (2, .int x2), (3, .int x3), (4, .ref x4), (5, .int x5)], []) σ = some r := lm_rn_of h
/-- LatticeSuite$Slh.hash, from 19 on -/
noncomputable def lm_q264_19 (sc : lm_H) (A : Nat → List Value → lm_M lm_R) (B : lm_F → lm_M lm_R) (x0 : Nat) (x1 : Nat) (x2 : Int32) (x3 : Int32) (x4 : Nat) (x5 : Int32) (s0 : Nat) : lm_M lm_R :=
  lm_bind (lm_sel [(5, 210), (6, 210), (7, 210)] (some (.ref s0))) fun y1 =>
  lm_bind (lm_asV (A y1 [.ref s0])) fun _ =>
  lm_bind (lm_gR 4050 x0) fun v2 =>
  lm_bind (lm_gI 4015 x0) fun v3 =>
  lm_if .eq v3 0 (B (47, [(0, .ref x0), (1, .ref x1), (2, .int x2), (3, .int x3), (4, .ref x4), (5, .int x5), (6, .ref s0)], [.int (Int32.ofInt 22), .int (Int32.ofInt 0), .ref v2, .ref s0])) (B (47, [(0, .ref x0), (1, .ref x1), (2, .int x2), (3, .int x3), (4, .ref x4), (5, .int x5), (6, .ref s0)], [.int (Int32.ofInt 32), .int (Int32.ofInt 0), .ref v2, .ref s0]))
set_option maxRecDepth 100000 in
theorem lm_e264_19 {sc : lm_H} {d : Nat} {x0 : Nat} {x1 : Nat} {x2 : Int32} {x3 : Int32} {x4 : Nat} {x5 : Int32} {s0 : Nat} {σ : lm_S} {r : Except Nat lm_R × lm_S} (h : lm_q264_19 sc (lm_cal sc d) (lm_rn sc d lm_m264.2.2.2.2.1 (lm_reg lm_m264.2.2.2.2.2)) x0 x1 x2 x3 x4 x5 s0 σ = some r) : lm_rn sc d lm_m264.2.2.2.2.1 (lm_reg lm_m264.2.2.2.2.2) (19, [(0, .ref x0), (1, .ref x1), (2, .int x2), (3, .int x3), (4, .ref x4), (5, .int x5)], [.ref s0]) σ = some r := lm_rn_of h
/-- LatticeSuite$Slh.hash, from 47 on -/
noncomputable def lm_q264_47 (sc : lm_H) (A : Nat → List Value → lm_M lm_R) (B : lm_F → lm_M lm_R) (x0 : Nat) (x1 : Nat) (x2 : Int32) (x3 : Int32) (x4 : Nat) (x5 : Int32) (x6 : Nat) (s0 : Int32) (s1 : Int32) (s2 : Nat) (s3 : Nat) : lm_M lm_R :=
  lm_bind (lm_sel [(5, 140), (6, 140), (7, 140)] (some (.ref s3))) fun y1 =>
  lm_bind (lm_asV (A y1 [.ref s3, .ref s2, .int s1, .int s0])) fun _ =>
  lm_bind (lm_sel [(5, 140), (6, 140), (7, 140)] (some (.ref x6))) fun y2 =>
  lm_bind (lm_asV (A y2 [.ref x6, .ref x1, .int x2, .int x3])) fun _ =>
  lm_bind (lm_gI 4016 x0) fun v3 =>
  lm_bind (lm_sel [(5, 143), (6, 144), (7, 145)] (some (.ref x6))) fun y4 =>
  lm_bind (lm_asV (A y4 [.ref x6, .ref x4, .int x5, .int v3])) fun _ =>
  lm_ret none
set_option maxRecDepth 100000 in
theorem lm_e264_47 {sc : lm_H} {d : Nat} {x0 : Nat} {x1 : Nat} {x2 : Int32} {x3 : Int32} {x4 : Nat} {x5 : Int32} {x6 : Nat} {s0 : Int32} {s1 : Int32} {s2 : Nat} {s3 : Nat} {σ : lm_S} {r : Except Nat lm_R × lm_S} (h : lm_q264_47 sc (lm_cal sc d) (lm_rn sc d lm_m264.2.2.2.2.1 (lm_reg lm_m264.2.2.2.2.2)) x0 x1 x2 x3 x4 x5 x6 s0 s1 s2 s3 σ = some r) : lm_rn sc d lm_m264.2.2.2.2.1 (lm_reg lm_m264.2.2.2.2.2) (47, [(0, .ref x0), (1, .ref x1), (2, .int x2), (3, .int x3), (4, .ref x4), (5, .int x5), (6, .ref x6)], [.int s0, .int s1, .ref s2, .ref s3]) σ = some r := lm_rn_of h
/-- LatticeSuite$Slh.forestRoot, from 0 on -/
noncomputable def lm_q265_0 (sc : lm_H) (A : Nat → List Value → lm_M lm_R) (B : lm_F → lm_M lm_R) (x0 : Nat) (x1 : Int32) (x2 : Nat) (x3 : Int32) : lm_M lm_R :=
  B (6, [(0, .ref x0), (1, .int x1), (2, .ref x2), (4, .int x3), (5, .int (Int32.ofInt 0))], [])
set_option maxRecDepth 100000 in
theorem lm_e265_0 {sc : lm_H} {d : Nat} {x0 : Nat} {x1 : Int32} {x2 : Nat} {x3 : Int32} {σ : lm_S} {r : Except Nat lm_R × lm_S} (h : lm_q265_0 sc (lm_cal sc d) (lm_rn sc d lm_m265.2.2.2.2.1 (lm_reg lm_m265.2.2.2.2.2)) x0 x1 x2 x3  σ = some r) : lm_rn sc d lm_m265.2.2.2.2.1 (lm_reg lm_m265.2.2.2.2.2) (0, [(0, .ref x0), (1, .int x1), (2, .ref x2), (3, .int x3)], []) σ = some r := lm_rn_of h
/-- LatticeSuite$Slh.forestRoot, from 6 on -/
noncomputable def lm_q265_6 (sc : lm_H) (A : Nat → List Value → lm_M lm_R) (B : lm_F → lm_M lm_R) (x0 : Nat) (x1 : Int32) (x2 : Nat) (x4 : Int32) (x5 : Int32) : lm_M lm_R :=
  lm_bind (lm_gI 4032 x0) fun v1 =>
  lm_if .ge x5 v1 (lm_bind (lm_sel [(10, 263)] (some (.ref x0))) fun y2 =>
  lm_bind (lm_asV (A y2 [.ref x0, .int (Int32.ofInt 4), .int x1, .int (Int32.ofInt 0), .int (Int32.ofInt 0)])) fun _ =>
  lm_bind (lm_gR 4066 x0) fun v3 =>
  lm_bind (lm_gI 4032 x0) fun v4 =>
  lm_bind (lm_gI 4016 x0) fun v5 =>
  lm_bind (lm_gR 4058 x0) fun v6 =>
  lm_bind (lm_sel [(10, 264)] (some (.ref x0))) fun y7 =>
  lm_bind (lm_asV (A y7 [.ref x0, .ref v3, .int (Int32.ofInt 0), .int (v4 * v5), .ref v6, .int (Int32.ofInt 0)])) fun _ =>
  lm_ret none) (lm_bind (lm_sel [(10, 262)] (some (.ref x0))) fun y8 =>
  lm_bind (lm_asI (A y8 [.ref x0, .int x5])) fun v9 =>
  lm_bind (lm_sel [(10, 263)] (some (.ref x0))) fun y10 =>
  lm_bind (lm_asV (A y10 [.ref x0, .int (Int32.ofInt 3), .int x1, .int (Int32.ofInt 0), .int v9])) fun _ =>
  lm_bind (lm_gI 4016 x0) fun v11 =>
  lm_bind (lm_gR 4058 x0) fun v12 =>
  lm_bind (lm_sel [(10, 264)] (some (.ref x0))) fun y13 =>
  lm_bind (lm_asV (A y13 [.ref x0, .ref x2, .int x4, .int v11, .ref v12, .int (Int32.ofInt 0)])) fun _ =>
  lm_bind (lm_gI 4028 x0) fun v14 =>
  lm_bind (lm_gI 4016 x0) fun v15 =>
  lm_bind (lm_sel [(10, 305)] (some (.ref x0))) fun y16 =>
  lm_bind (lm_asV (A y16 [.ref x0, .int (Int32.ofInt 3), .int x1, .int v9, .int v14, .ref x2, .int (x4 + v15)])) fun _ =>
  lm_bind (lm_gR 4058 x0) fun v17 =>
  lm_bind (lm_gR 4066 x0) fun v18 =>
  lm_bind (lm_gI 4016 x0) fun v19 =>
  lm_bind (lm_gI 4016 x0) fun v20 =>
  lm_bind (lm_copy sc v17 (Int32.ofInt 0) v18 (x5 * v19) v20) fun _ =>
  lm_bind (lm_gI 4016 x0) fun v21 =>
  lm_bind (lm_gI 4028 x0) fun v22 =>
  B (6, [(0, .ref x0), (1, .int x1), (2, .ref x2), (4, .int (x4 + (v21 * ((Int32.ofInt 1) + v22)))), (5, .int (x5 + Int32.ofInt 1))], []))
set_option maxRecDepth 100000 in
theorem lm_e265_6 {sc : lm_H} {d : Nat} {x0 : Nat} {x1 : Int32} {x2 : Nat} {x4 : Int32} {x5 : Int32} {σ : lm_S} {r : Except Nat lm_R × lm_S} (h : lm_q265_6 sc (lm_cal sc d) (lm_rn sc d lm_m265.2.2.2.2.1 (lm_reg lm_m265.2.2.2.2.2)) x0 x1 x2 x4 x5  σ = some r) : lm_rn sc d lm_m265.2.2.2.2.1 (lm_reg lm_m265.2.2.2.2.2) (6, [(0, .ref x0), (1, .int x1), (2, .ref x2), (4, .int x4), (5, .int x5)], []) σ = some r := lm_rn_of h
/-- LatticeSuite$Slh.forestSize, from 0 on -/
noncomputable def lm_q266_0 (sc : lm_H) (A : Nat → List Value → lm_M lm_R) (B : lm_F → lm_M lm_R) (x0 : Nat) : lm_M lm_R :=
  lm_bind (lm_gI 4016 x0) fun v1 =>
  lm_bind (lm_gI 4032 x0) fun v2 =>
  lm_bind (lm_gI 4028 x0) fun v3 =>
  lm_ret (some (.int ((v1 * v2) * ((Int32.ofInt 1) + v3))))
set_option maxRecDepth 100000 in
theorem lm_e266_0 {sc : lm_H} {d : Nat} {x0 : Nat} {σ : lm_S} {r : Except Nat lm_R × lm_S} (h : lm_q266_0 sc (lm_cal sc d) (lm_rn sc d lm_m266.2.2.2.2.1 (lm_reg lm_m266.2.2.2.2.2)) x0  σ = some r) : lm_rn sc d lm_m266.2.2.2.2.1 (lm_reg lm_m266.2.2.2.2.2) (0, [(0, .ref x0)], []) σ = some r := lm_rn_of h
/-- LatticeSuite$Slh.signChains, from 0 on -/
noncomputable def lm_q267_0 (sc : lm_H) (A : Nat → List Value → lm_M lm_R) (B : lm_F → lm_M lm_R) (x0 : Nat) (x1 : Int32) (x2 : Nat) (x3 : Int32) : lm_M lm_R :=
  lm_bind (lm_sel [(10, 306)] (some (.ref x0))) fun y1 =>
  lm_bind (lm_asV (A y1 [.ref x0])) fun _ =>
  B (7, [(0, .ref x0), (1, .int x1), (2, .ref x2), (3, .int x3), (4, .int (Int32.ofInt 0))], [])
set_option maxRecDepth 100000 in
theorem lm_e267_0 {sc : lm_H} {d : Nat} {x0 : Nat} {x1 : Int32} {x2 : Nat} {x3 : Int32} {σ : lm_S} {r : Except Nat lm_R × lm_S} (h : lm_q267_0 sc (lm_cal sc d) (lm_rn sc d lm_m267.2.2.2.2.1 (lm_reg lm_m267.2.2.2.2.2)) x0 x1 x2 x3  σ = some r) : lm_rn sc d lm_m267.2.2.2.2.1 (lm_reg lm_m267.2.2.2.2.2) (0, [(0, .ref x0), (1, .int x1), (2, .ref x2), (3, .int x3)], []) σ = some r := lm_rn_of h
/-- LatticeSuite$Slh.signChains, from 7 on -/
noncomputable def lm_q267_7 (sc : lm_H) (A : Nat → List Value → lm_M lm_R) (B : lm_F → lm_M lm_R) (x0 : Nat) (x1 : Int32) (x2 : Nat) (x3 : Int32) (x4 : Int32) : lm_M lm_R :=
  lm_bind (lm_gI 4036 x0) fun v1 =>
  lm_if .ge x4 v1 (lm_ret none) (lm_bind (lm_sel [(10, 263)] (some (.ref x0))) fun y2 =>
  lm_bind (lm_asV (A y2 [.ref x0, .int (Int32.ofInt 5), .int x1, .int x4, .int (Int32.ofInt 0)])) fun _ =>
  lm_bind (lm_gR 4054 x0) fun v3 =>
  lm_bind (lm_gI 4016 x0) fun v4 =>
  lm_bind (lm_gI 4016 x0) fun v5 =>
  lm_bind (lm_sel [(10, 264)] (some (.ref x0))) fun y6 =>
  lm_bind (lm_asV (A y6 [.ref x0, .ref v3, .int (Int32.ofInt 0), .int v4, .ref x2, .int (x3 + (x4 * v5))])) fun _ =>
  lm_bind (lm_gR 4078 x0) fun v7 =>
  lm_bind (lm_iald sc v7 x4) fun v8 =>
  lm_bind (lm_gI 4016 x0) fun v9 =>
  lm_bind (lm_sel [(10, 307)] (some (.ref x0))) fun y10 =>
  lm_bind (lm_asV (A y10 [.ref x0, .int x1, .int x4, .int (Int32.ofInt 0), .int v8, .ref x2, .int (x3 + (x4 * v9))])) fun _ =>
  B (7, [(0, .ref x0), (1, .int x1), (2, .ref x2), (3, .int x3), (4, .int (x4 + Int32.ofInt 1))], []))
set_option maxRecDepth 100000 in
theorem lm_e267_7 {sc : lm_H} {d : Nat} {x0 : Nat} {x1 : Int32} {x2 : Nat} {x3 : Int32} {x4 : Int32} {σ : lm_S} {r : Except Nat lm_R × lm_S} (h : lm_q267_7 sc (lm_cal sc d) (lm_rn sc d lm_m267.2.2.2.2.1 (lm_reg lm_m267.2.2.2.2.2)) x0 x1 x2 x3 x4  σ = some r) : lm_rn sc d lm_m267.2.2.2.2.1 (lm_reg lm_m267.2.2.2.2.2) (7, [(0, .ref x0), (1, .int x1), (2, .ref x2), (3, .int x3), (4, .int x4)], []) σ = some r := lm_rn_of h
/-- LatticeSuite$Slh.treeRoot, from 0 on -/
noncomputable def lm_q268_0 (sc : lm_H) (A : Nat → List Value → lm_M lm_R) (B : lm_F → lm_M lm_R) (x0 : Nat) (x1 : Int32) (x2 : Nat) (x3 : Int32) : lm_M lm_R :=
  lm_bind (lm_sel [(10, 306)] (some (.ref x0))) fun y1 =>
  lm_bind (lm_asV (A y1 [.ref x0])) fun _ =>
  lm_bind (lm_gR 4066 x0) fun v2 =>
  lm_bind (lm_gI 4036 x0) fun v3 =>
  lm_bind (lm_gI 4016 x0) fun v4 =>
  lm_bind (lm_copy sc x2 x3 v2 (Int32.ofInt 0) (v3 * v4)) fun _ =>
  B (26, [(0, .ref x0), (1, .int x1), (2, .ref x2), (3, .int x3), (4, .int (Int32.ofInt 0))], [])
set_option maxRecDepth 100000 in
theorem lm_e268_0 {sc : lm_H} {d : Nat} {x0 : Nat} {x1 : Int32} {x2 : Nat} {x3 : Int32} {σ : lm_S} {r : Except Nat lm_R × lm_S} (h : lm_q268_0 sc (lm_cal sc d) (lm_rn sc d lm_m268.2.2.2.2.1 (lm_reg lm_m268.2.2.2.2.2)) x0 x1 x2 x3  σ = some r) : lm_rn sc d lm_m268.2.2.2.2.1 (lm_reg lm_m268.2.2.2.2.2) (0, [(0, .ref x0), (1, .int x1), (2, .ref x2), (3, .int x3)], []) σ = some r := lm_rn_of h
/-- LatticeSuite$Slh.treeRoot, from 26 on -/
noncomputable def lm_q268_26 (sc : lm_H) (A : Nat → List Value → lm_M lm_R) (B : lm_F → lm_M lm_R) (x0 : Nat) (x1 : Int32) (x2 : Nat) (x3 : Int32) (x4 : Int32) : lm_M lm_R :=
  lm_bind (lm_gI 4036 x0) fun v1 =>
  lm_if .ge x4 v1 (lm_bind (lm_sel [(10, 263)] (some (.ref x0))) fun y2 =>
  lm_bind (lm_asV (A y2 [.ref x0, .int (Int32.ofInt 1), .int x1, .int (Int32.ofInt 0), .int (Int32.ofInt 0)])) fun _ =>
  lm_bind (lm_gR 4066 x0) fun v3 =>
  lm_bind (lm_gI 4036 x0) fun v4 =>
  lm_bind (lm_gI 4016 x0) fun v5 =>
  lm_bind (lm_gR 4058 x0) fun v6 =>
  lm_bind (lm_sel [(10, 264)] (some (.ref x0))) fun y7 =>
  lm_bind (lm_asV (A y7 [.ref x0, .ref v3, .int (Int32.ofInt 0), .int (v4 * v5), .ref v6, .int (Int32.ofInt 0)])) fun _ =>
  lm_bind (lm_gI 4024 x0) fun v8 =>
  lm_bind (lm_gI 4036 x0) fun v9 =>
  lm_bind (lm_gI 4016 x0) fun v10 =>
  lm_bind (lm_sel [(10, 305)] (some (.ref x0))) fun y11 =>
  lm_bind (lm_asV (A y11 [.ref x0, .int (Int32.ofInt 2), .int (Int32.ofInt 0), .int x1, .int v8, .ref x2, .int (x3 + (v9 * v10))])) fun _ =>
  lm_ret none) (lm_bind (lm_gR 4078 x0) fun v12 =>
  lm_bind (lm_iald sc v12 x4) fun v13 =>
  lm_bind (lm_gR 4078 x0) fun v14 =>
  lm_bind (lm_iald sc v14 x4) fun v15 =>
  lm_bind (lm_gR 4066 x0) fun v16 =>
  lm_bind (lm_gI 4016 x0) fun v17 =>
  lm_bind (lm_sel [(10, 307)] (some (.ref x0))) fun y18 =>
  lm_bind (lm_asV (A y18 [.ref x0, .int x1, .int x4, .int v13, .int ((Int32.ofInt 15) - v15), .ref v16, .int (x4 * v17)])) fun _ =>
  B (26, [(0, .ref x0), (1, .int x1), (2, .ref x2), (3, .int x3), (4, .int (x4 + Int32.ofInt 1))], []))
set_option maxRecDepth 100000 in
theorem lm_e268_26 {sc : lm_H} {d : Nat} {x0 : Nat} {x1 : Int32} {x2 : Nat} {x3 : Int32} {x4 : Int32} {σ : lm_S} {r : Except Nat lm_R × lm_S} (h : lm_q268_26 sc (lm_cal sc d) (lm_rn sc d lm_m268.2.2.2.2.1 (lm_reg lm_m268.2.2.2.2.2)) x0 x1 x2 x3 x4  σ = some r) : lm_rn sc d lm_m268.2.2.2.2.1 (lm_reg lm_m268.2.2.2.2.2) (26, [(0, .ref x0), (1, .int x1), (2, .ref x2), (3, .int x3), (4, .int x4)], []) σ = some r := lm_rn_of h
/-- LatticeSuite$Slh.layerSize, from 0 on -/
noncomputable def lm_q269_0 (sc : lm_H) (A : Nat → List Value → lm_M lm_R) (B : lm_F → lm_M lm_R) (x0 : Nat) : lm_M lm_R :=
  lm_bind (lm_gI 4016 x0) fun v1 =>
  lm_bind (lm_gI 4036 x0) fun v2 =>
  lm_bind (lm_gI 4024 x0) fun v3 =>
  lm_ret (some (.int (v1 * (v2 + v3))))
set_option maxRecDepth 100000 in
theorem lm_e269_0 {sc : lm_H} {d : Nat} {x0 : Nat} {σ : lm_S} {r : Except Nat lm_R × lm_S} (h : lm_q269_0 sc (lm_cal sc d) (lm_rn sc d lm_m269.2.2.2.2.1 (lm_reg lm_m269.2.2.2.2.2)) x0  σ = some r) : lm_rn sc d lm_m269.2.2.2.2.1 (lm_reg lm_m269.2.2.2.2.2) (0, [(0, .ref x0)], []) σ = some r := lm_rn_of h
/-- LatticeSuite$Slh.takePublicSeed, from 0 on -/
noncomputable def lm_q270_0 (sc : lm_H) (A : Nat → List Value → lm_M lm_R) (B : lm_F → lm_M lm_R) (x0 : Nat) (x1 : Nat) (x2 : Int32) : lm_M lm_R :=
  lm_bind (lm_gI 4015 x0) fun v1 =>
  lm_if .eq v1 0 (B (14, [(0, .ref x0), (1, .ref x1), (2, .int x2)], [.int (Int32.ofInt 1), .ref x0])) (B (14, [(0, .ref x0), (1, .ref x1), (2, .int x2)], [.int (Int32.ofInt 12), .ref x0]))
set_option maxRecDepth 100000 in
theorem lm_e270_0 {sc : lm_H} {d : Nat} {x0 : Nat} {x1 : Nat} {x2 : Int32} {σ : lm_S} {r : Except Nat lm_R × lm_S} (h : lm_q270_0 sc (lm_cal sc d) (lm_rn sc d lm_m270.2.2.2.2.1 (lm_reg lm_m270.2.2.2.2.2)) x0 x1 x2  σ = some r) : lm_rn sc d lm_m270.2.2.2.2.1 (lm_reg lm_m270.2.2.2.2.2) (0, [(0, .ref x0), (1, .ref x1), (2, .int x2)], []) σ = some r := lm_rn_of h
/-- LatticeSuite$Slh.takePublicSeed, from 14 on -/
noncomputable def lm_q270_14 (sc : lm_H) (A : Nat → List Value → lm_M lm_R) (B : lm_F → lm_M lm_R) (x0 : Nat) (x1 : Nat) (x2 : Int32) (s0 : Int32) (s1 : Nat) : lm_M lm_R :=
  lm_bind (lm_sel [(10, 308)] (some (.ref s1))) fun y1 =>
  lm_bind (lm_asV (A y1 [.ref s1, .int s0, .ref x1, .int x2])) fun _ =>
  lm_bind (lm_gR 4010 x0) fun v2 =>
  lm_bind (lm_gR 4006 x0) fun v3 =>
  lm_when (v2 < lm_B ∧ v3 < lm_B) inferInstance (if v2 = v3 then lm_ret none else lm_bind (lm_gI 4044 x0) fun v4 =>
  lm_bind (lm_sel [(10, 308)] (some (.ref x0))) fun y5 =>
  lm_bind (lm_asV (A y5 [.ref x0, .int v4, .ref x1, .int x2])) fun _ =>
  lm_ret none)
set_option maxRecDepth 100000 in
theorem lm_e270_14 {sc : lm_H} {d : Nat} {x0 : Nat} {x1 : Nat} {x2 : Int32} {s0 : Int32} {s1 : Nat} {σ : lm_S} {r : Except Nat lm_R × lm_S} (h : lm_q270_14 sc (lm_cal sc d) (lm_rn sc d lm_m270.2.2.2.2.1 (lm_reg lm_m270.2.2.2.2.2)) x0 x1 x2 s0 s1 σ = some r) : lm_rn sc d lm_m270.2.2.2.2.1 (lm_reg lm_m270.2.2.2.2.2) (14, [(0, .ref x0), (1, .ref x1), (2, .int x2)], [.int s0, .ref s1]) σ = some r := lm_rn_of h
/-- LatticeSuite$Slh.leaf, from 0 on -/
noncomputable def lm_q271_0 (sc : lm_H) (A : Nat → List Value → lm_M lm_R) (B : lm_F → lm_M lm_R) (x0 : Nat) (x1 : Int32) (x2 : Nat) (x3 : Int32) : lm_M lm_R :=
  B (3, [(0, .ref x0), (1, .int x1), (2, .ref x2), (3, .int x3), (4, .int (Int32.ofInt 0))], [])
set_option maxRecDepth 100000 in
theorem lm_e271_0 {sc : lm_H} {d : Nat} {x0 : Nat} {x1 : Int32} {x2 : Nat} {x3 : Int32} {σ : lm_S} {r : Except Nat lm_R × lm_S} (h : lm_q271_0 sc (lm_cal sc d) (lm_rn sc d lm_m271.2.2.2.2.1 (lm_reg lm_m271.2.2.2.2.2)) x0 x1 x2 x3  σ = some r) : lm_rn sc d lm_m271.2.2.2.2.1 (lm_reg lm_m271.2.2.2.2.2) (0, [(0, .ref x0), (1, .int x1), (2, .ref x2), (3, .int x3)], []) σ = some r := lm_rn_of h
/-- LatticeSuite$Slh.leaf, from 3 on -/
noncomputable def lm_q271_3 (sc : lm_H) (A : Nat → List Value → lm_M lm_R) (B : lm_F → lm_M lm_R) (x0 : Nat) (x1 : Int32) (x2 : Nat) (x3 : Int32) (x4 : Int32) : lm_M lm_R :=
  lm_bind (lm_gI 4036 x0) fun v1 =>
  lm_if .ge x4 v1 (lm_bind (lm_sel [(10, 263)] (some (.ref x0))) fun y2 =>
  lm_bind (lm_asV (A y2 [.ref x0, .int (Int32.ofInt 1), .int x1, .int (Int32.ofInt 0), .int (Int32.ofInt 0)])) fun _ =>
  lm_bind (lm_gR 4066 x0) fun v3 =>
  lm_bind (lm_gI 4036 x0) fun v4 =>
  lm_bind (lm_gI 4016 x0) fun v5 =>
  lm_bind (lm_sel [(10, 264)] (some (.ref x0))) fun y6 =>
  lm_bind (lm_asV (A y6 [.ref x0, .ref v3, .int (Int32.ofInt 0), .int (v4 * v5), .ref x2, .int x3])) fun _ =>
  lm_ret none) (lm_bind (lm_sel [(10, 263)] (some (.ref x0))) fun y7 =>
  lm_bind (lm_asV (A y7 [.ref x0, .int (Int32.ofInt 5), .int x1, .int x4, .int (Int32.ofInt 0)])) fun _ =>
  lm_bind (lm_gR 4054 x0) fun v8 =>
  lm_bind (lm_gI 4016 x0) fun v9 =>
  lm_bind (lm_gR 4066 x0) fun v10 =>
  lm_bind (lm_gI 4016 x0) fun v11 =>
  lm_bind (lm_sel [(10, 264)] (some (.ref x0))) fun y12 =>
  lm_bind (lm_asV (A y12 [.ref x0, .ref v8, .int (Int32.ofInt 0), .int v9, .ref v10, .int (x4 * v11)])) fun _ =>
  lm_bind (lm_gR 4066 x0) fun v13 =>
  lm_bind (lm_gI 4016 x0) fun v14 =>
  lm_bind (lm_sel [(10, 307)] (some (.ref x0))) fun y15 =>
  lm_bind (lm_asV (A y15 [.ref x0, .int x1, .int x4, .int (Int32.ofInt 0), .int (Int32.ofInt 15), .ref v13, .int (x4 * v14)])) fun _ =>
  B (3, [(0, .ref x0), (1, .int x1), (2, .ref x2), (3, .int x3), (4, .int (x4 + Int32.ofInt 1))], []))
set_option maxRecDepth 100000 in
theorem lm_e271_3 {sc : lm_H} {d : Nat} {x0 : Nat} {x1 : Int32} {x2 : Nat} {x3 : Int32} {x4 : Int32} {σ : lm_S} {r : Except Nat lm_R × lm_S} (h : lm_q271_3 sc (lm_cal sc d) (lm_rn sc d lm_m271.2.2.2.2.1 (lm_reg lm_m271.2.2.2.2.2)) x0 x1 x2 x3 x4  σ = some r) : lm_rn sc d lm_m271.2.2.2.2.1 (lm_reg lm_m271.2.2.2.2.2) (3, [(0, .ref x0), (1, .int x1), (2, .ref x2), (3, .int x3), (4, .int x4)], []) σ = some r := lm_rn_of h
/-- LatticeSuite$Slh.forestLeaf, from 0 on -/
noncomputable def lm_q272_0 (sc : lm_H) (A : Nat → List Value → lm_M lm_R) (B : lm_F → lm_M lm_R) (x0 : Nat) (x1 : Int32) (x2 : Int32) (x3 : Nat) (x4 : Int32) : lm_M lm_R :=
  lm_bind (lm_sel [(10, 263)] (some (.ref x0))) fun y1 =>
  lm_bind (lm_asV (A y1 [.ref x0, .int (Int32.ofInt 6), .int x1, .int (Int32.ofInt 0), .int x2])) fun _ =>
  lm_bind (lm_gR 4054 x0) fun v2 =>
  lm_bind (lm_gI 4016 x0) fun v3 =>
  lm_bind (lm_sel [(10, 264)] (some (.ref x0))) fun y4 =>
  lm_bind (lm_asV (A y4 [.ref x0, .ref v2, .int (Int32.ofInt 0), .int v3, .ref x3, .int x4])) fun _ =>
  lm_bind (lm_sel [(10, 263)] (some (.ref x0))) fun y5 =>
  lm_bind (lm_asV (A y5 [.ref x0, .int (Int32.ofInt 3), .int x1, .int (Int32.ofInt 0), .int x2])) fun _ =>
  lm_bind (lm_gI 4016 x0) fun v6 =>
  lm_bind (lm_sel [(10, 264)] (some (.ref x0))) fun y7 =>
  lm_bind (lm_asV (A y7 [.ref x0, .ref x3, .int x4, .int v6, .ref x3, .int x4])) fun _ =>
  lm_ret none
set_option maxRecDepth 100000 in
theorem lm_e272_0 {sc : lm_H} {d : Nat} {x0 : Nat} {x1 : Int32} {x2 : Int32} {x3 : Nat} {x4 : Int32} {σ : lm_S} {r : Except Nat lm_R × lm_S} (h : lm_q272_0 sc (lm_cal sc d) (lm_rn sc d lm_m272.2.2.2.2.1 (lm_reg lm_m272.2.2.2.2.2)) x0 x1 x2 x3 x4  σ = some r) : lm_rn sc d lm_m272.2.2.2.2.1 (lm_reg lm_m272.2.2.2.2.2) (0, [(0, .ref x0), (1, .int x1), (2, .int x2), (3, .ref x3), (4, .int x4)], []) σ = some r := lm_rn_of h
/-- java/lang/Integer.reverseBytes, from 0 on -/
noncomputable def lm_q273_0 (sc : lm_H) (A : Nat → List Value → lm_M lm_R) (B : lm_F → lm_M lm_R) (x0 : Int32) : lm_M lm_R :=
  lm_ret (some (.int ((((x0 <<< ((Int32.ofInt 24) &&& 31)) ||| ((x0 &&& (Int32.ofInt 65280)) <<< ((Int32.ofInt 8) &&& 31))) ||| ((lm_us x0 (Int32.ofInt 8)) &&& (Int32.ofInt 65280))) ||| (lm_us x0 (Int32.ofInt 24)))))
set_option maxRecDepth 100000 in
theorem lm_e273_0 {sc : lm_H} {d : Nat} {x0 : Int32} {σ : lm_S} {r : Except Nat lm_R × lm_S} (h : lm_q273_0 sc (lm_cal sc d) (lm_rn sc d lm_m273.2.2.2.2.1 (lm_reg lm_m273.2.2.2.2.2)) x0  σ = some r) : lm_rn sc d lm_m273.2.2.2.2.1 (lm_reg lm_m273.2.2.2.2.2) (0, [(0, .int x0)], []) σ = some r := lm_rn_of h
/-- java/util/Arrays.fill, from 0 on -/
noncomputable def lm_q274_0 (sc : lm_H) (A : Nat → List Value → lm_M lm_R) (B : lm_F → lm_M lm_R) (x0 : Nat) (x1 : Int64) : lm_M lm_R :=
  lm_bind (lm_alen sc x0) fun v1 =>
  B (6, [(0, .ref x0), (1, .long x1), (3, .int (Int32.ofInt 0)), (4, .int v1)], [])
set_option maxRecDepth 100000 in
theorem lm_e274_0 {sc : lm_H} {d : Nat} {x0 : Nat} {x1 : Int64} {σ : lm_S} {r : Except Nat lm_R × lm_S} (h : lm_q274_0 sc (lm_cal sc d) (lm_rn sc d lm_m274.2.2.2.2.1 (lm_reg lm_m274.2.2.2.2.2)) x0 x1  σ = some r) : lm_rn sc d lm_m274.2.2.2.2.1 (lm_reg lm_m274.2.2.2.2.2) (0, [(0, .ref x0), (1, .long x1)], []) σ = some r := lm_rn_of h
/-- java/util/Arrays.fill, from 6 on -/
noncomputable def lm_q274_6 (sc : lm_H) (A : Nat → List Value → lm_M lm_R) (B : lm_F → lm_M lm_R) (x0 : Nat) (x1 : Int64) (x3 : Int32) (x4 : Int32) : lm_M lm_R :=
  lm_if .ge x3 x4 (lm_ret none) (lm_bind (lm_last x0 x3 x1) fun _ =>
  B (6, [(0, .ref x0), (1, .long x1), (3, .int (x3 + Int32.ofInt 1)), (4, .int x4)], []))
set_option maxRecDepth 100000 in
theorem lm_e274_6 {sc : lm_H} {d : Nat} {x0 : Nat} {x1 : Int64} {x3 : Int32} {x4 : Int32} {σ : lm_S} {r : Except Nat lm_R × lm_S} (h : lm_q274_6 sc (lm_cal sc d) (lm_rn sc d lm_m274.2.2.2.2.1 (lm_reg lm_m274.2.2.2.2.2)) x0 x1 x3 x4  σ = some r) : lm_rn sc d lm_m274.2.2.2.2.1 (lm_reg lm_m274.2.2.2.2.2) (6, [(0, .ref x0), (1, .long x1), (3, .int x3), (4, .int x4)], []) σ = some r := lm_rn_of h
/-- LatticeSuite$Hash.empty, from 0 on -/
noncomputable def lm_q275_0 (sc : lm_H) (A : Nat → List Value → lm_M lm_R) (B : lm_F → lm_M lm_R) (x0 : Nat) : lm_M lm_R :=
  lm_bind (lm_putf 1208 x0 (.int (Int32.ofInt 0))) fun _ =>
  lm_bind (lm_putf 1213 x0 (.long (Int64.ofNat 0))) fun _ =>
  lm_ret none
set_option maxRecDepth 100000 in
theorem lm_e275_0 {sc : lm_H} {d : Nat} {x0 : Nat} {σ : lm_S} {r : Except Nat lm_R × lm_S} (h : lm_q275_0 sc (lm_cal sc d) (lm_rn sc d lm_m275.2.2.2.2.1 (lm_reg lm_m275.2.2.2.2.2)) x0  σ = some r) : lm_rn sc d lm_m275.2.2.2.2.1 (lm_reg lm_m275.2.2.2.2.2) (0, [(0, .ref x0)], []) σ = some r := lm_rn_of h
/-- java/lang/Integer.rotateRight, from 0 on -/
noncomputable def lm_q276_0 (sc : lm_H) (A : Nat → List Value → lm_M lm_R) (B : lm_F → lm_M lm_R) (x0 : Int32) (x1 : Int32) : lm_M lm_R :=
  lm_ret (some (.int ((lm_us x0 x1) ||| (x0 <<< ((-x1) &&& 31)))))
set_option maxRecDepth 100000 in
theorem lm_e276_0 {sc : lm_H} {d : Nat} {x0 : Int32} {x1 : Int32} {σ : lm_S} {r : Except Nat lm_R × lm_S} (h : lm_q276_0 sc (lm_cal sc d) (lm_rn sc d lm_m276.2.2.2.2.1 (lm_reg lm_m276.2.2.2.2.2)) x0 x1  σ = some r) : lm_rn sc d lm_m276.2.2.2.2.1 (lm_reg lm_m276.2.2.2.2.2) (0, [(0, .int x0), (1, .int x1)], []) σ = some r := lm_rn_of h
/-- java/lang/Long.rotateRight, from 0 on -/
noncomputable def lm_q277_0 (sc : lm_H) (A : Nat → List Value → lm_M lm_R) (B : lm_F → lm_M lm_R) (x0 : Int64) (x2 : Int32) : lm_M lm_R :=
  lm_ret (some (.long ((lm_uL x0 x2) ||| (x0 <<< ((Int32.toInt64 (-x2)) &&& 63)))))
set_option maxRecDepth 100000 in
theorem lm_e277_0 {sc : lm_H} {d : Nat} {x0 : Int64} {x2 : Int32} {σ : lm_S} {r : Except Nat lm_R × lm_S} (h : lm_q277_0 sc (lm_cal sc d) (lm_rn sc d lm_m277.2.2.2.2.1 (lm_reg lm_m277.2.2.2.2.2)) x0 x2  σ = some r) : lm_rn sc d lm_m277.2.2.2.2.1 (lm_reg lm_m277.2.2.2.2.2) (0, [(0, .long x0), (2, .int x2)], []) σ = some r := lm_rn_of h
/-- LatticeSuite$Sponge.keepState, from 0 on -/
noncomputable def lm_q278_0 (sc : lm_H) (A : Nat → List Value → lm_M lm_R) (B : lm_F → lm_M lm_R) (x0 : Nat) : lm_M lm_R :=
  lm_bind (lm_gR 2030 x0) fun v1 =>
  lm_bind (lm_gR 2038 x0) fun v2 =>
  lm_bind (lm_copy sc v1 (Int32.ofInt 0) v2 (Int32.ofInt 0) (Int32.ofInt 25)) fun _ =>
  lm_ret none
set_option maxRecDepth 100000 in
theorem lm_e278_0 {sc : lm_H} {d : Nat} {x0 : Nat} {σ : lm_S} {r : Except Nat lm_R × lm_S} (h : lm_q278_0 sc (lm_cal sc d) (lm_rn sc d lm_m278.2.2.2.2.1 (lm_reg lm_m278.2.2.2.2.2)) x0  σ = some r) : lm_rn sc d lm_m278.2.2.2.2.1 (lm_reg lm_m278.2.2.2.2.2) (0, [(0, .ref x0)], []) σ = some r := lm_rn_of h
/-- LatticeSuite$Sha256.keepState, from 0 on -/
noncomputable def lm_q279_0 (sc : lm_H) (A : Nat → List Value → lm_M lm_R) (B : lm_F → lm_M lm_R) (x0 : Nat) : lm_M lm_R :=
  lm_bind (lm_gR 2430 x0) fun v1 =>
  lm_bind (lm_gR 2434 x0) fun v2 =>
  lm_bind (lm_copy sc v1 (Int32.ofInt 0) v2 (Int32.ofInt 0) (Int32.ofInt 8)) fun _ =>
  lm_ret none
set_option maxRecDepth 100000 in
theorem lm_e279_0 {sc : lm_H} {d : Nat} {x0 : Nat} {σ : lm_S} {r : Except Nat lm_R × lm_S} (h : lm_q279_0 sc (lm_cal sc d) (lm_rn sc d lm_m279.2.2.2.2.1 (lm_reg lm_m279.2.2.2.2.2)) x0  σ = some r) : lm_rn sc d lm_m279.2.2.2.2.1 (lm_reg lm_m279.2.2.2.2.2) (0, [(0, .ref x0)], []) σ = some r := lm_rn_of h
/-- LatticeSuite$Sha512.keepState, from 0 on -/
noncomputable def lm_q280_0 (sc : lm_H) (A : Nat → List Value → lm_M lm_R) (B : lm_F → lm_M lm_R) (x0 : Nat) : lm_M lm_R :=
  lm_bind (lm_gR 2830 x0) fun v1 =>
  lm_bind (lm_gR 2834 x0) fun v2 =>
  lm_bind (lm_copy sc v1 (Int32.ofInt 0) v2 (Int32.ofInt 0) (Int32.ofInt 8)) fun _ =>
  lm_ret none
set_option maxRecDepth 100000 in
theorem lm_e280_0 {sc : lm_H} {d : Nat} {x0 : Nat} {σ : lm_S} {r : Except Nat lm_R × lm_S} (h : lm_q280_0 sc (lm_cal sc d) (lm_rn sc d lm_m280.2.2.2.2.1 (lm_reg lm_m280.2.2.2.2.2)) x0  σ = some r) : lm_rn sc d lm_m280.2.2.2.2.1 (lm_reg lm_m280.2.2.2.2.2) (0, [(0, .ref x0)], []) σ = some r := lm_rn_of h
/-- LatticeSuite$Sponge.bringState, from 0 on -/
noncomputable def lm_q281_0 (sc : lm_H) (A : Nat → List Value → lm_M lm_R) (B : lm_F → lm_M lm_R) (x0 : Nat) : lm_M lm_R :=
  lm_bind (lm_gR 2038 x0) fun v1 =>
  lm_bind (lm_gR 2030 x0) fun v2 =>
  lm_bind (lm_copy sc v1 (Int32.ofInt 0) v2 (Int32.ofInt 0) (Int32.ofInt 25)) fun _ =>
  lm_ret none
set_option maxRecDepth 100000 in
theorem lm_e281_0 {sc : lm_H} {d : Nat} {x0 : Nat} {σ : lm_S} {r : Except Nat lm_R × lm_S} (h : lm_q281_0 sc (lm_cal sc d) (lm_rn sc d lm_m281.2.2.2.2.1 (lm_reg lm_m281.2.2.2.2.2)) x0  σ = some r) : lm_rn sc d lm_m281.2.2.2.2.1 (lm_reg lm_m281.2.2.2.2.2) (0, [(0, .ref x0)], []) σ = some r := lm_rn_of h
/-- LatticeSuite$Sha256.bringState, from 0 on -/
noncomputable def lm_q282_0 (sc : lm_H) (A : Nat → List Value → lm_M lm_R) (B : lm_F → lm_M lm_R) (x0 : Nat) : lm_M lm_R :=
  lm_bind (lm_gR 2434 x0) fun v1 =>
  lm_bind (lm_gR 2430 x0) fun v2 =>
  lm_bind (lm_copy sc v1 (Int32.ofInt 0) v2 (Int32.ofInt 0) (Int32.ofInt 8)) fun _ =>
  lm_ret none
set_option maxRecDepth 100000 in
theorem lm_e282_0 {sc : lm_H} {d : Nat} {x0 : Nat} {σ : lm_S} {r : Except Nat lm_R × lm_S} (h : lm_q282_0 sc (lm_cal sc d) (lm_rn sc d lm_m282.2.2.2.2.1 (lm_reg lm_m282.2.2.2.2.2)) x0  σ = some r) : lm_rn sc d lm_m282.2.2.2.2.1 (lm_reg lm_m282.2.2.2.2.2) (0, [(0, .ref x0)], []) σ = some r := lm_rn_of h
/-- LatticeSuite$Sha512.bringState, from 0 on -/
noncomputable def lm_q283_0 (sc : lm_H) (A : Nat → List Value → lm_M lm_R) (B : lm_F → lm_M lm_R) (x0 : Nat) : lm_M lm_R :=
  lm_bind (lm_gR 2834 x0) fun v1 =>
  lm_bind (lm_gR 2830 x0) fun v2 =>
  lm_bind (lm_copy sc v1 (Int32.ofInt 0) v2 (Int32.ofInt 0) (Int32.ofInt 8)) fun _ =>
  lm_ret none
set_option maxRecDepth 100000 in
theorem lm_e283_0 {sc : lm_H} {d : Nat} {x0 : Nat} {σ : lm_S} {r : Except Nat lm_R × lm_S} (h : lm_q283_0 sc (lm_cal sc d) (lm_rn sc d lm_m283.2.2.2.2.1 (lm_reg lm_m283.2.2.2.2.2)) x0  σ = some r) : lm_rn sc d lm_m283.2.2.2.2.1 (lm_reg lm_m283.2.2.2.2.2) (0, [(0, .ref x0)], []) σ = some r := lm_rn_of h
/-- java/lang/Long.rotateLeft, from 0 on -/
noncomputable def lm_q284_0 (sc : lm_H) (A : Nat → List Value → lm_M lm_R) (B : lm_F → lm_M lm_R) (x0 : Int64) (x2 : Int32) : lm_M lm_R :=
  lm_ret (some (.long ((x0 <<< ((Int32.toInt64 x2) &&& 63)) ||| (lm_uL x0 (-x2)))))
set_option maxRecDepth 100000 in
theorem lm_e284_0 {sc : lm_H} {d : Nat} {x0 : Int64} {x2 : Int32} {σ : lm_S} {r : Except Nat lm_R × lm_S} (h : lm_q284_0 sc (lm_cal sc d) (lm_rn sc d lm_m284.2.2.2.2.1 (lm_reg lm_m284.2.2.2.2.2)) x0 x2  σ = some r) : lm_rn sc d lm_m284.2.2.2.2.1 (lm_reg lm_m284.2.2.2.2.2) (0, [(0, .long x0), (2, .int x2)], []) σ = some r := lm_rn_of h
/-- LatticeSuite$Kem.sample, from 0 on -/
noncomputable def lm_q285_0 (sc : lm_H) (A : Nat → List Value → lm_M lm_R) (B : lm_F → lm_M lm_R) (x0 : Nat) (x1 : Nat) : lm_M lm_R :=
  lm_bind (lm_gR 3202 x0) fun v1 =>
  lm_bind (lm_gR 802 v1) fun v2 =>
  lm_bind (lm_sel [(5, 200)] (some (.ref v2))) fun y3 =>
  lm_bind (lm_asV (A y3 [.ref v2, .int (Int32.ofInt 11)])) fun _ =>
  lm_bind (lm_gR 3234 x0) fun v4 =>
  lm_bind (lm_sel [(5, 140)] (some (.ref v2))) fun y5 =>
  lm_bind (lm_asV (A y5 [.ref v2, .ref v4, .int (Int32.ofInt 0), .int (Int32.ofInt 34)])) fun _ =>
  lm_bind (lm_gR 3230 x0) fun v6 =>
  lm_bind (lm_sel [(5, 143)] (some (.ref v2))) fun y7 =>
  lm_bind (lm_asV (A y7 [.ref v2, .ref v6, .int (Int32.ofInt 0), .int (Int32.ofInt 168)])) fun _ =>
  B (42, [(0, .ref x0), (1, .ref x1), (2, .ref v2), (3, .int (Int32.ofInt 0)), (4, .int (Int32.ofInt 0))], [])
set_option maxRecDepth 100000 in
theorem lm_e285_0 {sc : lm_H} {d : Nat} {x0 : Nat} {x1 : Nat} {σ : lm_S} {r : Except Nat lm_R × lm_S} (h : lm_q285_0 sc (lm_cal sc d) (lm_rn sc d lm_m285.2.2.2.2.1 (lm_reg lm_m285.2.2.2.2.2)) x0 x1  σ = some r) : lm_rn sc d lm_m285.2.2.2.2.1 (lm_reg lm_m285.2.2.2.2.2) (0, [(0, .ref x0), (1, .ref x1)], []) σ = some r := lm_rn_of h
/-- LatticeSuite$Kem.sample, from 42 on -/
noncomputable def lm_q285_42 (sc : lm_H) (A : Nat → List Value → lm_M lm_R) (B : lm_F → lm_M lm_R) (x0 : Nat) (x1 : Nat) (x2 : Nat) (x3 : Int32) (x4 : Int32) : lm_M lm_R :=
  lm_if .ge x4 (Int32.ofInt 280) (B (191, [(3, .int x3)], [])) (lm_if .ge x3 (Int32.ofInt 256) (B (191, [(3, .int x3)], [])) (lm_when (¬ (Int32.ofInt 56) = 0) inferInstance (lm_if .ne ((lm_rem x4 (Int32.ofInt 56)) * (Int32.ofInt 3)) 0 (B (84, [(0, .ref x0), (1, .ref x1), (2, .ref x2), (3, .int x3), (4, .int x4), (5, .int ((lm_rem x4 (Int32.ofInt 56)) * (Int32.ofInt 3)))], [])) (lm_if .le x4 0 (B (84, [(0, .ref x0), (1, .ref x1), (2, .ref x2), (3, .int x3), (4, .int x4), (5, .int ((lm_rem x4 (Int32.ofInt 56)) * (Int32.ofInt 3)))], [])) (lm_bind (lm_gR 3230 x0) fun v1 =>
  lm_bind (lm_sel [(5, 293)] (some (.ref x2))) fun y2 =>
  lm_bind (lm_asV (A y2 [.ref x2, .ref v1])) fun _ =>
  B (84, [(0, .ref x0), (1, .ref x1), (2, .ref x2), (3, .int x3), (4, .int x4), (5, .int ((lm_rem x4 (Int32.ofInt 56)) * (Int32.ofInt 3)))], []))))))
set_option maxRecDepth 100000 in
theorem lm_e285_42 {sc : lm_H} {d : Nat} {x0 : Nat} {x1 : Nat} {x2 : Nat} {x3 : Int32} {x4 : Int32} {σ : lm_S} {r : Except Nat lm_R × lm_S} (h : lm_q285_42 sc (lm_cal sc d) (lm_rn sc d lm_m285.2.2.2.2.1 (lm_reg lm_m285.2.2.2.2.2)) x0 x1 x2 x3 x4  σ = some r) : lm_rn sc d lm_m285.2.2.2.2.1 (lm_reg lm_m285.2.2.2.2.2) (42, [(0, .ref x0), (1, .ref x1), (2, .ref x2), (3, .int x3), (4, .int x4)], []) σ = some r := lm_rn_of h
/-- LatticeSuite$Kem.sample, from 191 on -/
noncomputable def lm_q285_191 (sc : lm_H) (A : Nat → List Value → lm_M lm_R) (B : lm_F → lm_M lm_R) (x3 : Int32) : lm_M lm_R :=
  lm_if .ge x3 (Int32.ofInt 256) (lm_ret none) (lm_thr 15)
set_option maxRecDepth 100000 in
theorem lm_e285_191 {sc : lm_H} {d : Nat} {x3 : Int32} {σ : lm_S} {r : Except Nat lm_R × lm_S} (h : lm_q285_191 sc (lm_cal sc d) (lm_rn sc d lm_m285.2.2.2.2.1 (lm_reg lm_m285.2.2.2.2.2)) x3  σ = some r) : lm_rn sc d lm_m285.2.2.2.2.1 (lm_reg lm_m285.2.2.2.2.2) (191, [(3, .int x3)], []) σ = some r := lm_rn_of h
/-- LatticeSuite$Kem.sample, from 84 on -/
noncomputable def lm_q285_84 (sc : lm_H) (A : Nat → List Value → lm_M lm_R) (B : lm_F → lm_M lm_R) (x0 : Nat) (x1 : Nat) (x2 : Nat) (x3 : Int32) (x4 : Int32) (x5 : Int32) : lm_M lm_R :=
  lm_bind (lm_gR 3230 x0) fun v1 =>
  lm_bind (lm_bald sc v1 (x5 + (Int32.ofInt 1))) fun v2 =>
  lm_bind (lm_gR 3230 x0) fun v3 =>
  lm_bind (lm_bald sc v3 x5) fun v4 =>
  lm_when (¬ (Int32.ofInt 16) = 0) inferInstance (lm_when (¬ (Int32.ofInt 16) = 0) inferInstance (lm_bind (lm_gR 3230 x0) fun v5 =>
  lm_bind (lm_bald sc v5 (x5 + (Int32.ofInt 2))) fun v6 =>
  lm_if .ge ((v4 &&& (Int32.ofInt 255)) + ((Int32.ofInt 256) * (lm_rem (v2 &&& (Int32.ofInt 255)) (Int32.ofInt 16)))) (Int32.ofInt 3329) (B (162, [(0, .ref x0), (1, .ref x1), (2, .ref x2), (3, .int x3), (4, .int x4), (8, .int (((v2 &&& (Int32.ofInt 255)) / (Int32.ofInt 16)) + ((Int32.ofInt 16) * (v6 &&& (Int32.ofInt 255)))))], [])) (lm_bind (lm_iast x1 x3 ((v4 &&& (Int32.ofInt 255)) + ((Int32.ofInt 256) * (lm_rem (v2 &&& (Int32.ofInt 255)) (Int32.ofInt 16))))) fun _ =>
  B (162, [(0, .ref x0), (1, .ref x1), (2, .ref x2), (3, .int (x3 + Int32.ofInt 1)), (4, .int x4), (8, .int (((v2 &&& (Int32.ofInt 255)) / (Int32.ofInt 16)) + ((Int32.ofInt 16) * (v6 &&& (Int32.ofInt 255)))))], []))))
set_option maxRecDepth 100000 in
theorem lm_e285_84 {sc : lm_H} {d : Nat} {x0 : Nat} {x1 : Nat} {x2 : Nat} {x3 : Int32} {x4 : Int32} {x5 : Int32} {σ : lm_S} {r : Except Nat lm_R × lm_S} (h : lm_q285_84 sc (lm_cal sc d) (lm_rn sc d lm_m285.2.2.2.2.1 (lm_reg lm_m285.2.2.2.2.2)) x0 x1 x2 x3 x4 x5  σ = some r) : lm_rn sc d lm_m285.2.2.2.2.1 (lm_reg lm_m285.2.2.2.2.2) (84, [(0, .ref x0), (1, .ref x1), (2, .ref x2), (3, .int x3), (4, .int x4), (5, .int x5)], []) σ = some r := lm_rn_of h
/-- LatticeSuite$Kem.sample, from 162 on -/
noncomputable def lm_q285_162 (sc : lm_H) (A : Nat → List Value → lm_M lm_R) (B : lm_F → lm_M lm_R) (x0 : Nat) (x1 : Nat) (x2 : Nat) (x3 : Int32) (x4 : Int32) (x8 : Int32) : lm_M lm_R :=
  lm_if .ge x8 (Int32.ofInt 3329) (B (185, [(0, .ref x0), (1, .ref x1), (2, .ref x2), (3, .int x3), (4, .int x4)], [])) (lm_if .ge x3 (Int32.ofInt 256) (B (185, [(0, .ref x0), (1, .ref x1), (2, .ref x2), (3, .int x3), (4, .int x4)], [])) (lm_bind (lm_iast x1 x3 x8) fun _ =>
  B (185, [(0, .ref x0), (1, .ref x1), (2, .ref x2), (3, .int (x3 + Int32.ofInt 1)), (4, .int x4)], [])))
set_option maxRecDepth 100000 in
theorem lm_e285_162 {sc : lm_H} {d : Nat} {x0 : Nat} {x1 : Nat} {x2 : Nat} {x3 : Int32} {x4 : Int32} {x8 : Int32} {σ : lm_S} {r : Except Nat lm_R × lm_S} (h : lm_q285_162 sc (lm_cal sc d) (lm_rn sc d lm_m285.2.2.2.2.1 (lm_reg lm_m285.2.2.2.2.2)) x0 x1 x2 x3 x4 x8  σ = some r) : lm_rn sc d lm_m285.2.2.2.2.1 (lm_reg lm_m285.2.2.2.2.2) (162, [(0, .ref x0), (1, .ref x1), (2, .ref x2), (3, .int x3), (4, .int x4), (8, .int x8)], []) σ = some r := lm_rn_of h
/-- LatticeSuite$Kem.sample, from 185 on -/
noncomputable def lm_q285_185 (sc : lm_H) (A : Nat → List Value → lm_M lm_R) (B : lm_F → lm_M lm_R) (x0 : Nat) (x1 : Nat) (x2 : Nat) (x3 : Int32) (x4 : Int32) : lm_M lm_R :=
  B (42, [(0, .ref x0), (1, .ref x1), (2, .ref x2), (3, .int x3), (4, .int (x4 + Int32.ofInt 1))], [])
set_option maxRecDepth 100000 in
theorem lm_e285_185 {sc : lm_H} {d : Nat} {x0 : Nat} {x1 : Nat} {x2 : Nat} {x3 : Int32} {x4 : Int32} {σ : lm_S} {r : Except Nat lm_R × lm_S} (h : lm_q285_185 sc (lm_cal sc d) (lm_rn sc d lm_m285.2.2.2.2.1 (lm_reg lm_m285.2.2.2.2.2)) x0 x1 x2 x3 x4  σ = some r) : lm_rn sc d lm_m285.2.2.2.2.1 (lm_reg lm_m285.2.2.2.2.2) (185, [(0, .ref x0), (1, .ref x1), (2, .ref x2), (3, .int x3), (4, .int x4)], []) σ = some r := lm_rn_of h
/-- java/lang/Math.floorMod, from 0 on -/
noncomputable def lm_q286_0 (sc : lm_H) (A : Nat → List Value → lm_M lm_R) (B : lm_F → lm_M lm_R) (x0 : Int32) (x1 : Int32) : lm_M lm_R :=
  lm_when (¬ x1 = 0) inferInstance (lm_if .ge (x0 ^^^ x1) 0 (lm_ret (some (.int (lm_rem x0 x1)))) (lm_if .eq (lm_rem x0 x1) 0 (lm_ret (some (.int (lm_rem x0 x1)))) (lm_ret (some (.int ((lm_rem x0 x1) + x1))))))
set_option maxRecDepth 100000 in
theorem lm_e286_0 {sc : lm_H} {d : Nat} {x0 : Int32} {x1 : Int32} {σ : lm_S} {r : Except Nat lm_R × lm_S} (h : lm_q286_0 sc (lm_cal sc d) (lm_rn sc d lm_m286.2.2.2.2.1 (lm_reg lm_m286.2.2.2.2.2)) x0 x1  σ = some r) : lm_rn sc d lm_m286.2.2.2.2.1 (lm_reg lm_m286.2.2.2.2.2) (0, [(0, .int x0), (1, .int x1)], []) σ = some r := lm_rn_of h
/-- java/util/Arrays.fill, from 0 on -/
noncomputable def lm_q287_0 (sc : lm_H) (A : Nat → List Value → lm_M lm_R) (B : lm_F → lm_M lm_R) (x0 : Nat) (x1 : Int32) : lm_M lm_R :=
  lm_bind (lm_alen sc x0) fun v1 =>
  B (5, [(0, .ref x0), (1, .int x1), (2, .int (Int32.ofInt 0)), (3, .int v1)], [])
set_option maxRecDepth 100000 in
theorem lm_e287_0 {sc : lm_H} {d : Nat} {x0 : Nat} {x1 : Int32} {σ : lm_S} {r : Except Nat lm_R × lm_S} (h : lm_q287_0 sc (lm_cal sc d) (lm_rn sc d lm_m287.2.2.2.2.1 (lm_reg lm_m287.2.2.2.2.2)) x0 x1  σ = some r) : lm_rn sc d lm_m287.2.2.2.2.1 (lm_reg lm_m287.2.2.2.2.2) (0, [(0, .ref x0), (1, .int x1)], []) σ = some r := lm_rn_of h
/-- java/util/Arrays.fill, from 5 on -/
noncomputable def lm_q287_5 (sc : lm_H) (A : Nat → List Value → lm_M lm_R) (B : lm_F → lm_M lm_R) (x0 : Nat) (x1 : Int32) (x2 : Int32) (x3 : Int32) : lm_M lm_R :=
  lm_if .ge x2 x3 (lm_ret none) (lm_bind (lm_iast x0 x2 x1) fun _ =>
  B (5, [(0, .ref x0), (1, .int x1), (2, .int (x2 + Int32.ofInt 1)), (3, .int x3)], []))
set_option maxRecDepth 100000 in
theorem lm_e287_5 {sc : lm_H} {d : Nat} {x0 : Nat} {x1 : Int32} {x2 : Int32} {x3 : Int32} {σ : lm_S} {r : Except Nat lm_R × lm_S} (h : lm_q287_5 sc (lm_cal sc d) (lm_rn sc d lm_m287.2.2.2.2.1 (lm_reg lm_m287.2.2.2.2.2)) x0 x1 x2 x3  σ = some r) : lm_rn sc d lm_m287.2.2.2.2.1 (lm_reg lm_m287.2.2.2.2.2) (5, [(0, .ref x0), (1, .int x1), (2, .int x2), (3, .int x3)], []) σ = some r := lm_rn_of h
/-- LatticeSuite$Kem.finishPart, from 0 on -/
noncomputable def lm_q288_0 (sc : lm_H) (A : Nat → List Value → lm_M lm_R) (B : lm_F → lm_M lm_R) (x0 : Nat) (x1 : Int32) (x2 : Int32) (x3 : Int32) (x4 : Nat) : lm_M lm_R :=
  lm_bind (lm_gR 3222 x0) fun v1 =>
  lm_bind (lm_asV (A 221 [.ref v1])) fun _ =>
  lm_bind (lm_gR 3222 x0) fun v2 =>
  lm_bind (lm_sel [(8, 290)] (some (.ref x0))) fun y3 =>
  lm_bind (lm_asV (A y3 [.ref x0, .ref v2])) fun _ =>
  lm_bind (lm_gR 3226 x0) fun v4 =>
  lm_bind (lm_sel [(8, 217)] (some (.ref x0))) fun y5 =>
  lm_bind (lm_asV (A y5 [.ref x0, .ref v4, .int x1, .int (Int32.ofInt 2)])) fun _ =>
  lm_bind (lm_gI 3248 x0) fun v6 =>
  lm_if .ne x1 ((Int32.ofInt 2) * v6) (B (40, [(0, .ref x0), (2, .int x2), (3, .int x3), (4, .ref x4)], [.int (Int32.ofInt 0)])) (B (40, [(0, .ref x0), (2, .int x2), (3, .int x3), (4, .ref x4)], [.int (Int32.ofInt 1)]))
set_option maxRecDepth 100000 in
theorem lm_e288_0 {sc : lm_H} {d : Nat} {x0 : Nat} {x1 : Int32} {x2 : Int32} {x3 : Int32} {x4 : Nat} {σ : lm_S} {r : Except Nat lm_R × lm_S} (h : lm_q288_0 sc (lm_cal sc d) (lm_rn sc d lm_m288.2.2.2.2.1 (lm_reg lm_m288.2.2.2.2.2)) x0 x1 x2 x3 x4  σ = some r) : lm_rn sc d lm_m288.2.2.2.2.1 (lm_reg lm_m288.2.2.2.2.2) (0, [(0, .ref x0), (1, .int x1), (2, .int x2), (3, .int x3), (4, .ref x4)], []) σ = some r := lm_rn_of h
/-- LatticeSuite$Kem.finishPart, from 40 on -/
noncomputable def lm_q288_40 (sc : lm_H) (A : Nat → List Value → lm_M lm_R) (B : lm_F → lm_M lm_R) (x0 : Nat) (x2 : Int32) (x3 : Int32) (x4 : Nat) (s0 : Int32) : lm_M lm_R :=
  B (45, [(0, .ref x0), (2, .int x2), (3, .int x3), (4, .ref x4), (5, .int s0), (6, .int (Int32.ofInt 0))], [])
set_option maxRecDepth 100000 in
theorem lm_e288_40 {sc : lm_H} {d : Nat} {x0 : Nat} {x2 : Int32} {x3 : Int32} {x4 : Nat} {s0 : Int32} {σ : lm_S} {r : Except Nat lm_R × lm_S} (h : lm_q288_40 sc (lm_cal sc d) (lm_rn sc d lm_m288.2.2.2.2.1 (lm_reg lm_m288.2.2.2.2.2)) x0 x2 x3 x4 s0 σ = some r) : lm_rn sc d lm_m288.2.2.2.2.1 (lm_reg lm_m288.2.2.2.2.2) (40, [(0, .ref x0), (2, .int x2), (3, .int x3), (4, .ref x4)], [.int s0]) σ = some r := lm_rn_of h
/-- LatticeSuite$Kem.finishPart, from 45 on -/
noncomputable def lm_q288_45 (sc : lm_H) (A : Nat → List Value → lm_M lm_R) (B : lm_F → lm_M lm_R) (x0 : Nat) (x2 : Int32) (x3 : Int32) (x4 : Nat) (x5 : Int32) (x6 : Int32) : lm_M lm_R :=
  lm_if .ge x6 (Int32.ofInt 256) (lm_bind (lm_gR 3222 x0) fun v1 =>
  lm_bind (lm_gR 3246 x0) fun v2 =>
  lm_bind (lm_asV (A 219 [.ref v1, .int x2, .ref v2, .int x3])) fun _ =>
  lm_ret none) (lm_if .eq x5 0 (B (77, [(0, .ref x0), (2, .int x2), (3, .int x3), (4, .ref x4), (5, .int x5), (6, .int x6)], [.int (Int32.ofInt 0)])) (lm_bind (lm_bald sc x4 (x6 >>> ((Int32.ofInt 3) &&& 31))) fun v3 =>
  B (77, [(0, .ref x0), (2, .int x2), (3, .int x3), (4, .ref x4), (5, .int x5), (6, .int x6)], [.int ((v3 >>> ((x6 &&& (Int32.ofInt 7)) &&& 31)) &&& (Int32.ofInt 1))])))
set_option maxRecDepth 100000 in
theorem lm_e288_45 {sc : lm_H} {d : Nat} {x0 : Nat} {x2 : Int32} {x3 : Int32} {x4 : Nat} {x5 : Int32} {x6 : Int32} {σ : lm_S} {r : Except Nat lm_R × lm_S} (h : lm_q288_45 sc (lm_cal sc d) (lm_rn sc d lm_m288.2.2.2.2.1 (lm_reg lm_m288.2.2.2.2.2)) x0 x2 x3 x4 x5 x6  σ = some r) : lm_rn sc d lm_m288.2.2.2.2.1 (lm_reg lm_m288.2.2.2.2.2) (45, [(0, .ref x0), (2, .int x2), (3, .int x3), (4, .ref x4), (5, .int x5), (6, .int x6)], []) σ = some r := lm_rn_of h
/-- LatticeSuite$Kem.finishPart, from 77 on -/
noncomputable def lm_q288_77 (sc : lm_H) (A : Nat → List Value → lm_M lm_R) (B : lm_F → lm_M lm_R) (x0 : Nat) (x2 : Int32) (x3 : Int32) (x4 : Nat) (x5 : Int32) (x6 : Int32) (s0 : Int32) : lm_M lm_R :=
  lm_bind (lm_gR 3222 x0) fun v1 =>
  lm_bind (lm_gR 3222 x0) fun v2 =>
  lm_bind (lm_iald sc v2 x6) fun v3 =>
  lm_bind (lm_gR 3226 x0) fun v4 =>
  lm_bind (lm_iald sc v4 x6) fun v5 =>
  lm_bind (lm_asI (A 289 [.int s0, .int (Int32.ofInt 1)])) fun v6 =>
  lm_bind (lm_asI (A 286 [.int ((v3 + v5) + v6), .int (Int32.ofInt 3329)])) fun v7 =>
  lm_bind (lm_asI (A 291 [.int v7, .int x2])) fun v8 =>
  lm_bind (lm_iast v1 x6 v8) fun _ =>
  B (45, [(0, .ref x0), (2, .int x2), (3, .int x3), (4, .ref x4), (5, .int x5), (6, .int (x6 + Int32.ofInt 1))], [])
set_option maxRecDepth 100000 in
theorem lm_e288_77 {sc : lm_H} {d : Nat} {x0 : Nat} {x2 : Int32} {x3 : Int32} {x4 : Nat} {x5 : Int32} {x6 : Int32} {s0 : Int32} {σ : lm_S} {r : Except Nat lm_R × lm_S} (h : lm_q288_77 sc (lm_cal sc d) (lm_rn sc d lm_m288.2.2.2.2.1 (lm_reg lm_m288.2.2.2.2.2)) x0 x2 x3 x4 x5 x6 s0 σ = some r) : lm_rn sc d lm_m288.2.2.2.2.1 (lm_reg lm_m288.2.2.2.2.2) (77, [(0, .ref x0), (2, .int x2), (3, .int x3), (4, .ref x4), (5, .int x5), (6, .int x6)], [.int s0]) σ = some r := lm_rn_of h
/-- LatticeSuite$Kem.decompress, from 0 on -/
noncomputable def lm_q289_0 (sc : lm_H) (A : Nat → List Value → lm_M lm_R) (B : lm_F → lm_M lm_R) (x0 : Int32) (x1 : Int32) : lm_M lm_R :=
  lm_ret (some (.int ((((Int32.ofInt 6658) * x0) + ((Int32.ofInt 1) <<< (x1 &&& 31))) >>> ((x1 + (Int32.ofInt 1)) &&& 31))))
set_option maxRecDepth 100000 in
theorem lm_e289_0 {sc : lm_H} {d : Nat} {x0 : Int32} {x1 : Int32} {σ : lm_S} {r : Except Nat lm_R × lm_S} (h : lm_q289_0 sc (lm_cal sc d) (lm_rn sc d lm_m289.2.2.2.2.1 (lm_reg lm_m289.2.2.2.2.2)) x0 x1  σ = some r) : lm_rn sc d lm_m289.2.2.2.2.1 (lm_reg lm_m289.2.2.2.2.2) (0, [(0, .int x0), (1, .int x1)], []) σ = some r := lm_rn_of h
/-- LatticeSuite$Kem.fromPairs, from 0 on -/
noncomputable def lm_q290_0 (sc : lm_H) (A : Nat → List Value → lm_M lm_R) (B : lm_F → lm_M lm_R) (x0 : Nat) (x1 : Nat) : lm_M lm_R :=
  B (5, [(0, .ref x0), (1, .ref x1), (2, .int (Int32.ofInt 127)), (3, .int (Int32.ofInt 2))], [])
set_option maxRecDepth 100000 in
theorem lm_e290_0 {sc : lm_H} {d : Nat} {x0 : Nat} {x1 : Nat} {σ : lm_S} {r : Except Nat lm_R × lm_S} (h : lm_q290_0 sc (lm_cal sc d) (lm_rn sc d lm_m290.2.2.2.2.1 (lm_reg lm_m290.2.2.2.2.2)) x0 x1  σ = some r) : lm_rn sc d lm_m290.2.2.2.2.1 (lm_reg lm_m290.2.2.2.2.2) (0, [(0, .ref x0), (1, .ref x1)], []) σ = some r := lm_rn_of h
/-- LatticeSuite$Kem.fromPairs, from 5 on -/
noncomputable def lm_q290_5 (sc : lm_H) (A : Nat → List Value → lm_M lm_R) (B : lm_F → lm_M lm_R) (x0 : Nat) (x1 : Nat) (x2 : Int32) (x3 : Int32) : lm_M lm_R :=
  lm_if .gt x3 (Int32.ofInt 128) (B (114, [(1, .ref x1), (3, .int (Int32.ofInt 0))], [])) (B (15, [(0, .ref x0), (1, .ref x1), (2, .int x2), (3, .int x3), (4, .int (Int32.ofInt 0))], []))
set_option maxRecDepth 100000 in
theorem lm_e290_5 {sc : lm_H} {d : Nat} {x0 : Nat} {x1 : Nat} {x2 : Int32} {x3 : Int32} {σ : lm_S} {r : Except Nat lm_R × lm_S} (h : lm_q290_5 sc (lm_cal sc d) (lm_rn sc d lm_m290.2.2.2.2.1 (lm_reg lm_m290.2.2.2.2.2)) x0 x1 x2 x3  σ = some r) : lm_rn sc d lm_m290.2.2.2.2.1 (lm_reg lm_m290.2.2.2.2.2) (5, [(0, .ref x0), (1, .ref x1), (2, .int x2), (3, .int x3)], []) σ = some r := lm_rn_of h
/-- LatticeSuite$Kem.fromPairs, from 114 on -/
noncomputable def lm_q290_114 (sc : lm_H) (A : Nat → List Value → lm_M lm_R) (B : lm_F → lm_M lm_R) (x1 : Nat) (x3 : Int32) : lm_M lm_R :=
  lm_if .ge x3 (Int32.ofInt 256) (lm_ret none) (lm_bind (lm_iald sc x1 x3) fun v1 =>
  lm_when (¬ (Int32.ofInt 3329) = 0) inferInstance (lm_bind (lm_iast x1 x3 (lm_rem (v1 * (Int32.ofInt 3303)) (Int32.ofInt 3329))) fun _ =>
  B (114, [(1, .ref x1), (3, .int (x3 + Int32.ofInt 1))], [])))
set_option maxRecDepth 100000 in
theorem lm_e290_114 {sc : lm_H} {d : Nat} {x1 : Nat} {x3 : Int32} {σ : lm_S} {r : Except Nat lm_R × lm_S} (h : lm_q290_114 sc (lm_cal sc d) (lm_rn sc d lm_m290.2.2.2.2.1 (lm_reg lm_m290.2.2.2.2.2)) x1 x3  σ = some r) : lm_rn sc d lm_m290.2.2.2.2.1 (lm_reg lm_m290.2.2.2.2.2) (114, [(1, .ref x1), (3, .int x3)], []) σ = some r := lm_rn_of h
/-- LatticeSuite$Kem.fromPairs, from 15 on -/
noncomputable def lm_q290_15 (sc : lm_H) (A : Nat → List Value → lm_M lm_R) (B : lm_F → lm_M lm_R) (x0 : Nat) (x1 : Nat) (x2 : Int32) (x3 : Int32) (x4 : Int32) : lm_M lm_R :=
  lm_if .ge x4 (Int32.ofInt 256) (B (5, [(0, .ref x0), (1, .ref x1), (2, .int x2), (3, .int (x3 <<< ((Int32.ofInt 1) &&& 31)))], [])) (lm_bind (lm_gR 3206 x0) fun v1 =>
  lm_bind (lm_iald sc v1 x2) fun v2 =>
  B (38, [(0, .ref x0), (1, .ref x1), (2, .int (x2 + Int32.ofInt (-1))), (3, .int x3), (4, .int x4), (5, .int v2), (6, .int x4)], []))
set_option maxRecDepth 100000 in
theorem lm_e290_15 {sc : lm_H} {d : Nat} {x0 : Nat} {x1 : Nat} {x2 : Int32} {x3 : Int32} {x4 : Int32} {σ : lm_S} {r : Except Nat lm_R × lm_S} (h : lm_q290_15 sc (lm_cal sc d) (lm_rn sc d lm_m290.2.2.2.2.1 (lm_reg lm_m290.2.2.2.2.2)) x0 x1 x2 x3 x4  σ = some r) : lm_rn sc d lm_m290.2.2.2.2.1 (lm_reg lm_m290.2.2.2.2.2) (15, [(0, .ref x0), (1, .ref x1), (2, .int x2), (3, .int x3), (4, .int x4)], []) σ = some r := lm_rn_of h
/-- LatticeSuite$Kem.fromPairs, from 38 on -/
noncomputable def lm_q290_38 (sc : lm_H) (A : Nat → List Value → lm_M lm_R) (B : lm_F → lm_M lm_R) (x0 : Nat) (x1 : Nat) (x2 : Int32) (x3 : Int32) (x4 : Int32) (x5 : Int32) (x6 : Int32) : lm_M lm_R :=
  lm_if .ge x6 (x4 + x3) (B (15, [(0, .ref x0), (1, .ref x1), (2, .int x2), (3, .int x3), (4, .int (x4 + ((Int32.ofInt 2) * x3)))], [])) (lm_bind (lm_iald sc x1 x6) fun v1 =>
  lm_bind (lm_iald sc x1 (x6 + x3)) fun v2 =>
  lm_bind (lm_iast x1 x6 (v1 + v2)) fun _ =>
  lm_bind (lm_iald sc x1 (x6 + x3)) fun v3 =>
  lm_when (¬ (Int32.ofInt 3329) = 0) inferInstance (lm_bind (lm_iast x1 (x6 + x3) (lm_rem (x5 * (v3 - v1)) (Int32.ofInt 3329))) fun _ =>
  B (38, [(0, .ref x0), (1, .ref x1), (2, .int x2), (3, .int x3), (4, .int x4), (5, .int x5), (6, .int (x6 + Int32.ofInt 1))], [])))
set_option maxRecDepth 100000 in
theorem lm_e290_38 {sc : lm_H} {d : Nat} {x0 : Nat} {x1 : Nat} {x2 : Int32} {x3 : Int32} {x4 : Int32} {x5 : Int32} {x6 : Int32} {σ : lm_S} {r : Except Nat lm_R × lm_S} (h : lm_q290_38 sc (lm_cal sc d) (lm_rn sc d lm_m290.2.2.2.2.1 (lm_reg lm_m290.2.2.2.2.2)) x0 x1 x2 x3 x4 x5 x6  σ = some r) : lm_rn sc d lm_m290.2.2.2.2.1 (lm_reg lm_m290.2.2.2.2.2) (38, [(0, .ref x0), (1, .ref x1), (2, .int x2), (3, .int x3), (4, .int x4), (5, .int x5), (6, .int x6)], []) σ = some r := lm_rn_of h
/-- LatticeSuite$Kem.compress, from 0 on -/
noncomputable def lm_q291_0 (sc : lm_H) (A : Nat → List Value → lm_M lm_R) (B : lm_F → lm_M lm_R) (x0 : Int32) (x1 : Int32) : lm_M lm_R :=
  lm_when (¬ (Int32.ofInt 6658) = 0) inferInstance (lm_ret (some (.int ((((x0 <<< ((x1 + (Int32.ofInt 1)) &&& 31)) + (Int32.ofInt 3329)) / (Int32.ofInt 6658)) &&& (((Int32.ofInt 1) <<< (x1 &&& 31)) - (Int32.ofInt 1))))))
set_option maxRecDepth 100000 in
theorem lm_e291_0 {sc : lm_H} {d : Nat} {x0 : Int32} {x1 : Int32} {σ : lm_S} {r : Except Nat lm_R × lm_S} (h : lm_q291_0 sc (lm_cal sc d) (lm_rn sc d lm_m291.2.2.2.2.1 (lm_reg lm_m291.2.2.2.2.2)) x0 x1  σ = some r) : lm_rn sc d lm_m291.2.2.2.2.1 (lm_reg lm_m291.2.2.2.2.2) (0, [(0, .int x0), (1, .int x1)], []) σ = some r := lm_rn_of h
/-- LatticeSuite$Dsa.sample, from 0 on -/
noncomputable def lm_q292_0 (sc : lm_H) (A : Nat → List Value → lm_M lm_R) (B : lm_F → lm_M lm_R) (x0 : Nat) (x1 : Nat) : lm_M lm_R :=
  lm_bind (lm_gR 3602 x0) fun v1 =>
  lm_bind (lm_gR 802 v1) fun v2 =>
  lm_bind (lm_sel [(5, 200)] (some (.ref v2))) fun y3 =>
  lm_bind (lm_asV (A y3 [.ref v2, .int (Int32.ofInt 11)])) fun _ =>
  lm_bind (lm_gR 3654 x0) fun v4 =>
  lm_bind (lm_sel [(5, 140)] (some (.ref v2))) fun y5 =>
  lm_bind (lm_asV (A y5 [.ref v2, .ref v4, .int (Int32.ofInt 0), .int (Int32.ofInt 34)])) fun _ =>
  lm_bind (lm_gR 3646 x0) fun v6 =>
  lm_bind (lm_sel [(5, 143)] (some (.ref v2))) fun y7 =>
  lm_bind (lm_asV (A y7 [.ref v2, .ref v6, .int (Int32.ofInt 0), .int (Int32.ofInt 168)])) fun _ =>
  B (42, [(0, .ref x0), (1, .ref x1), (2, .ref v2), (3, .int (Int32.ofInt 0)), (4, .int (Int32.ofInt 0))], [])
set_option maxRecDepth 100000 in
theorem lm_e292_0 {sc : lm_H} {d : Nat} {x0 : Nat} {x1 : Nat} {σ : lm_S} {r : Except Nat lm_R × lm_S} (h : lm_q292_0 sc (lm_cal sc d) (lm_rn sc d lm_m292.2.2.2.2.1 (lm_reg lm_m292.2.2.2.2.2)) x0 x1  σ = some r) : lm_rn sc d lm_m292.2.2.2.2.1 (lm_reg lm_m292.2.2.2.2.2) (0, [(0, .ref x0), (1, .ref x1)], []) σ = some r := lm_rn_of h
/-- LatticeSuite$Dsa.sample, from 42 on -/
noncomputable def lm_q292_42 (sc : lm_H) (A : Nat → List Value → lm_M lm_R) (B : lm_F → lm_M lm_R) (x0 : Nat) (x1 : Nat) (x2 : Nat) (x3 : Int32) (x4 : Int32) : lm_M lm_R :=
  lm_if .ge x4 (Int32.ofInt 298) (B (153, [(3, .int x3)], [])) (lm_if .ge x3 (Int32.ofInt 256) (B (153, [(3, .int x3)], [])) (lm_when (¬ (Int32.ofInt 56) = 0) inferInstance (lm_if .ne ((lm_rem x4 (Int32.ofInt 56)) * (Int32.ofInt 3)) 0 (B (84, [(0, .ref x0), (1, .ref x1), (2, .ref x2), (3, .int x3), (4, .int x4), (5, .int ((lm_rem x4 (Int32.ofInt 56)) * (Int32.ofInt 3)))], [])) (lm_if .le x4 0 (B (84, [(0, .ref x0), (1, .ref x1), (2, .ref x2), (3, .int x3), (4, .int x4), (5, .int ((lm_rem x4 (Int32.ofInt 56)) * (Int32.ofInt 3)))], [])) (lm_bind (lm_gR 3646 x0) fun v1 =>
  lm_bind (lm_sel [(5, 293)] (some (.ref x2))) fun y2 =>
  lm_bind (lm_asV (A y2 [.ref x2, .ref v1])) fun _ =>
  B (84, [(0, .ref x0), (1, .ref x1), (2, .ref x2), (3, .int x3), (4, .int x4), (5, .int ((lm_rem x4 (Int32.ofInt 56)) * (Int32.ofInt 3)))], []))))))
set_option maxRecDepth 100000 in
theorem lm_e292_42 {sc : lm_H} {d : Nat} {x0 : Nat} {x1 : Nat} {x2 : Nat} {x3 : Int32} {x4 : Int32} {σ : lm_S} {r : Except Nat lm_R × lm_S} (h : lm_q292_42 sc (lm_cal sc d) (lm_rn sc d lm_m292.2.2.2.2.1 (lm_reg lm_m292.2.2.2.2.2)) x0 x1 x2 x3 x4  σ = some r) : lm_rn sc d lm_m292.2.2.2.2.1 (lm_reg lm_m292.2.2.2.2.2) (42, [(0, .ref x0), (1, .ref x1), (2, .ref x2), (3, .int x3), (4, .int x4)], []) σ = some r := lm_rn_of h
/-- LatticeSuite$Dsa.sample, from 153 on -/
noncomputable def lm_q292_153 (sc : lm_H) (A : Nat → List Value → lm_M lm_R) (B : lm_F → lm_M lm_R) (x3 : Int32) : lm_M lm_R :=
  lm_if .ge x3 (Int32.ofInt 256) (lm_ret none) (lm_thr 15)
set_option maxRecDepth 100000 in
theorem lm_e292_153 {sc : lm_H} {d : Nat} {x3 : Int32} {σ : lm_S} {r : Except Nat lm_R × lm_S} (h : lm_q292_153 sc (lm_cal sc d) (lm_rn sc d lm_m292.2.2.2.2.1 (lm_reg lm_m292.2.2.2.2.2)) x3  σ = some r) : lm_rn sc d lm_m292.2.2.2.2.1 (lm_reg lm_m292.2.2.2.2.2) (153, [(3, .int x3)], []) σ = some r := lm_rn_of h
/-- LatticeSuite$Dsa.sample, from 84 on -/
noncomputable def lm_q292_84 (sc : lm_H) (A : Nat → List Value → lm_M lm_R) (B : lm_F → lm_M lm_R) (x0 : Nat) (x1 : Nat) (x2 : Nat) (x3 : Int32) (x4 : Int32) (x5 : Int32) : lm_M lm_R :=
  lm_bind (lm_gR 3646 x0) fun v1 =>
  lm_bind (lm_bald sc v1 x5) fun v2 =>
  lm_bind (lm_gR 3646 x0) fun v3 =>
  lm_bind (lm_bald sc v3 (x5 + (Int32.ofInt 1))) fun v4 =>
  lm_bind (lm_gR 3646 x0) fun v5 =>
  lm_bind (lm_bald sc v5 (x5 + (Int32.ofInt 2))) fun v6 =>
  lm_if .ge (((v2 &&& (Int32.ofInt 255)) + ((Int32.ofInt 256) * (v4 &&& (Int32.ofInt 255)))) + ((Int32.ofInt 65536) * (v6 &&& (Int32.ofInt 127)))) (Int32.ofInt 8380417) (B (147, [(0, .ref x0), (1, .ref x1), (2, .ref x2), (3, .int x3), (4, .int x4)], [])) (lm_bind (lm_iast x1 x3 (((v2 &&& (Int32.ofInt 255)) + ((Int32.ofInt 256) * (v4 &&& (Int32.ofInt 255)))) + ((Int32.ofInt 65536) * (v6 &&& (Int32.ofInt 127))))) fun _ =>
  B (147, [(0, .ref x0), (1, .ref x1), (2, .ref x2), (3, .int (x3 + Int32.ofInt 1)), (4, .int x4)], []))
set_option maxRecDepth 100000 in
theorem lm_e292_84 {sc : lm_H} {d : Nat} {x0 : Nat} {x1 : Nat} {x2 : Nat} {x3 : Int32} {x4 : Int32} {x5 : Int32} {σ : lm_S} {r : Except Nat lm_R × lm_S} (h : lm_q292_84 sc (lm_cal sc d) (lm_rn sc d lm_m292.2.2.2.2.1 (lm_reg lm_m292.2.2.2.2.2)) x0 x1 x2 x3 x4 x5  σ = some r) : lm_rn sc d lm_m292.2.2.2.2.1 (lm_reg lm_m292.2.2.2.2.2) (84, [(0, .ref x0), (1, .ref x1), (2, .ref x2), (3, .int x3), (4, .int x4), (5, .int x5)], []) σ = some r := lm_rn_of h
/-- LatticeSuite$Dsa.sample, from 147 on -/
noncomputable def lm_q292_147 (sc : lm_H) (A : Nat → List Value → lm_M lm_R) (B : lm_F → lm_M lm_R) (x0 : Nat) (x1 : Nat) (x2 : Nat) (x3 : Int32) (x4 : Int32) : lm_M lm_R :=
  B (42, [(0, .ref x0), (1, .ref x1), (2, .ref x2), (3, .int x3), (4, .int (x4 + Int32.ofInt 1))], [])
set_option maxRecDepth 100000 in
theorem lm_e292_147 {sc : lm_H} {d : Nat} {x0 : Nat} {x1 : Nat} {x2 : Nat} {x3 : Int32} {x4 : Int32} {σ : lm_S} {r : Except Nat lm_R × lm_S} (h : lm_q292_147 sc (lm_cal sc d) (lm_rn sc d lm_m292.2.2.2.2.1 (lm_reg lm_m292.2.2.2.2.2)) x0 x1 x2 x3 x4  σ = some r) : lm_rn sc d lm_m292.2.2.2.2.1 (lm_reg lm_m292.2.2.2.2.2) (147, [(0, .ref x0), (1, .ref x1), (2, .ref x2), (3, .int x3), (4, .int x4)], []) σ = some r := lm_rn_of h
/-- LatticeSuite$Sponge.goOn, from 0 on -/
noncomputable def lm_q293_0 (sc : lm_H) (A : Nat → List Value → lm_M lm_R) (B : lm_F → lm_M lm_R) (x0 : Nat) (x1 : Nat) : lm_M lm_R :=
  lm_bind (lm_sel [(5, 212)] (some (.ref x0))) fun y1 =>
  lm_bind (lm_asV (A y1 [.ref x0])) fun _ =>
  lm_bind (lm_gI 2004 x0) fun v2 =>
  lm_bind (lm_sel [(5, 211)] (some (.ref x0))) fun y3 =>
  lm_bind (lm_asV (A y3 [.ref x0, .ref x1, .int (Int32.ofInt 0), .int v2])) fun _ =>
  lm_ret none
set_option maxRecDepth 100000 in
theorem lm_e293_0 {sc : lm_H} {d : Nat} {x0 : Nat} {x1 : Nat} {σ : lm_S} {r : Except Nat lm_R × lm_S} (h : lm_q293_0 sc (lm_cal sc d) (lm_rn sc d lm_m293.2.2.2.2.1 (lm_reg lm_m293.2.2.2.2.2)) x0 x1  σ = some r) : lm_rn sc d lm_m293.2.2.2.2.1 (lm_reg lm_m293.2.2.2.2.2) (0, [(0, .ref x0), (1, .ref x1)], []) σ = some r := lm_rn_of h
/-- java/lang/Math.floorMod, from 0 on -/
noncomputable def lm_q294_0 (sc : lm_H) (A : Nat → List Value → lm_M lm_R) (B : lm_F → lm_M lm_R) (x0 : Int64) (x2 : Int64) : lm_M lm_R :=
  lm_when (¬ x2 = 0) inferInstance (lm_if .ge (lg_cmp (x0 ^^^ x2) (Int64.ofNat 0)) 0 (lm_ret (some (.long (lm_remL x0 x2)))) (lm_if .eq (lg_cmp (lm_remL x0 x2) (Int64.ofNat 0)) 0 (lm_ret (some (.long (lm_remL x0 x2)))) (lm_ret (some (.long ((lm_remL x0 x2) + x2))))))
set_option maxRecDepth 100000 in
theorem lm_e294_0 {sc : lm_H} {d : Nat} {x0 : Int64} {x2 : Int64} {σ : lm_S} {r : Except Nat lm_R × lm_S} (h : lm_q294_0 sc (lm_cal sc d) (lm_rn sc d lm_m294.2.2.2.2.1 (lm_reg lm_m294.2.2.2.2.2)) x0 x2  σ = some r) : lm_rn sc d lm_m294.2.2.2.2.1 (lm_reg lm_m294.2.2.2.2.2) (0, [(0, .long x0), (2, .long x2)], []) σ = some r := lm_rn_of h
/-- LatticeSuite$Signed.addTo, from 0 on -/
noncomputable def lm_q295_0 (sc : lm_H) (A : Nat → List Value → lm_M lm_R) (B : lm_F → lm_M lm_R) (x0 : Nat) (x1 : Nat) : lm_M lm_R :=
  lm_bind (lm_gR 1614 x0) fun v1 =>
  lm_bind (lm_gI 1616 x0) fun v2 =>
  lm_bind (lm_sel [(5, 140), (6, 140), (7, 140)] (some (.ref x1))) fun y3 =>
  lm_bind (lm_asV (A y3 [.ref x1, .ref v1, .int (Int32.ofInt 0), .int v2])) fun _ =>
  lm_bind (lm_gI 1623 x0) fun v4 =>
  lm_if .eq v4 0 (lm_ret none) (lm_bind (lm_gR 1610 x0) fun v5 =>
  lm_bind (lm_gR 402 v5) fun v6 =>
  lm_bind (lm_gR 1610 x0) fun v7 =>
  lm_bind (lm_gI 404 v7) fun v8 =>
  lm_bind (lm_sel [(5, 140), (6, 140), (7, 140)] (some (.ref x1))) fun y9 =>
  lm_bind (lm_asV (A y9 [.ref x1, .ref v6, .int (Int32.ofInt 0), .int v8])) fun _ =>
  lm_ret none)
set_option maxRecDepth 100000 in
theorem lm_e295_0 {sc : lm_H} {d : Nat} {x0 : Nat} {x1 : Nat} {σ : lm_S} {r : Except Nat lm_R × lm_S} (h : lm_q295_0 sc (lm_cal sc d) (lm_rn sc d lm_m295.2.2.2.2.1 (lm_reg lm_m295.2.2.2.2.2)) x0 x1  σ = some r) : lm_rn sc d lm_m295.2.2.2.2.1 (lm_reg lm_m295.2.2.2.2.2) (0, [(0, .ref x0), (1, .ref x1)], []) σ = some r := lm_rn_of h
/-- LatticeSuite$Dsa.fillMask, from 0 on -/
noncomputable def lm_q296_0 (sc : lm_H) (A : Nat → List Value → lm_M lm_R) (B : lm_F → lm_M lm_R) (x0 : Nat) (x1 : Nat) (x2 : Int32) : lm_M lm_R :=
  lm_bind (lm_gR 3650 x0) fun v1 =>
  lm_bind (lm_gR 3654 x0) fun v2 =>
  lm_bind (lm_copy sc v1 (Int32.ofInt 0) v2 (Int32.ofInt 0) (Int32.ofInt 64)) fun _ =>
  lm_bind (lm_gR 3654 x0) fun v3 =>
  lm_bind (lm_bast v3 (Int32.ofInt 64) (lm_b8 x2)) fun _ =>
  lm_bind (lm_gR 3654 x0) fun v4 =>
  lm_bind (lm_bast v4 (Int32.ofInt 65) (lm_b8 (x2 >>> ((Int32.ofInt 8) &&& 31)))) fun _ =>
  lm_bind (lm_gR 3602 x0) fun v5 =>
  lm_bind (lm_sel [(2, 139)] (some (.ref v5))) fun y6 =>
  lm_bind (lm_asR (A y6 [.ref v5, .int (Int32.ofInt 12)])) fun v7 =>
  lm_bind (lm_gR 3654 x0) fun v8 =>
  lm_bind (lm_sel [(5, 140), (6, 140), (7, 140)] (some (.ref v7))) fun y9 =>
  lm_bind (lm_asV (A y9 [.ref v7, .ref v8, .int (Int32.ofInt 0), .int (Int32.ofInt 66)])) fun _ =>
  lm_bind (lm_gR 3646 x0) fun v10 =>
  lm_bind (lm_sel [(9, 251)] (some (.ref x0))) fun y11 =>
  lm_bind (lm_asI (A y11 [.ref x0])) fun v12 =>
  lm_bind (lm_sel [(5, 143), (6, 144), (7, 145)] (some (.ref v7))) fun y13 =>
  lm_bind (lm_asV (A y13 [.ref v7, .ref v10, .int (Int32.ofInt 0), .int ((Int32.ofInt 32) * v12)])) fun _ =>
  lm_bind (lm_gI 3668 x0) fun v14 =>
  lm_bind (lm_iald sc (lm_B + 11) v14) fun v15 =>
  lm_bind (lm_gR 3646 x0) fun v16 =>
  lm_bind (lm_sel [(9, 251)] (some (.ref x0))) fun y17 =>
  lm_bind (lm_asI (A y17 [.ref x0])) fun v18 =>
  lm_bind (lm_sel [(9, 252)] (some (.ref x0))) fun y19 =>
  lm_bind (lm_asV (A y19 [.ref x0, .int v15, .ref v16, .int (Int32.ofInt 0), .int v18, .ref x1])) fun _ =>
  lm_ret none
set_option maxRecDepth 100000 in
theorem lm_e296_0 {sc : lm_H} {d : Nat} {x0 : Nat} {x1 : Nat} {x2 : Int32} {σ : lm_S} {r : Except Nat lm_R × lm_S} (h : lm_q296_0 sc (lm_cal sc d) (lm_rn sc d lm_m296.2.2.2.2.1 (lm_reg lm_m296.2.2.2.2.2)) x0 x1 x2  σ = some r) : lm_rn sc d lm_m296.2.2.2.2.1 (lm_reg lm_m296.2.2.2.2.2) (0, [(0, .ref x0), (1, .ref x1), (2, .int x2)], []) σ = some r := lm_rn_of h
/-- LatticeSuite$Dsa.addHighs, from 0 on -/
noncomputable def lm_q297_0 (sc : lm_H) (A : Nat → List Value → lm_M lm_R) (B : lm_F → lm_M lm_R) (x0 : Nat) (x1 : Nat) (x2 : Nat) : lm_M lm_R :=
  B (2, [(0, .ref x0), (1, .ref x1), (2, .ref x2), (3, .int (Int32.ofInt 0))], [])
set_option maxRecDepth 100000 in
theorem lm_e297_0 {sc : lm_H} {d : Nat} {x0 : Nat} {x1 : Nat} {x2 : Nat} {σ : lm_S} {r : Except Nat lm_R × lm_S} (h : lm_q297_0 sc (lm_cal sc d) (lm_rn sc d lm_m297.2.2.2.2.1 (lm_reg lm_m297.2.2.2.2.2)) x0 x1 x2  σ = some r) : lm_rn sc d lm_m297.2.2.2.2.1 (lm_reg lm_m297.2.2.2.2.2) (0, [(0, .ref x0), (1, .ref x1), (2, .ref x2)], []) σ = some r := lm_rn_of h
/-- LatticeSuite$Dsa.addHighs, from 2 on -/
noncomputable def lm_q297_2 (sc : lm_H) (A : Nat → List Value → lm_M lm_R) (B : lm_F → lm_M lm_R) (x0 : Nat) (x1 : Nat) (x2 : Nat) (x3 : Int32) : lm_M lm_R :=
  lm_if .ge x3 (Int32.ofInt 256) (lm_bind (lm_gR 3638 x0) fun v1 =>
  lm_bind (lm_sel [(9, 257)] (some (.ref x0))) fun y2 =>
  lm_bind (lm_asI (A y2 [.ref x0])) fun v3 =>
  lm_bind (lm_gR 3646 x0) fun v4 =>
  lm_bind (lm_asV (A 219 [.ref v1, .int v3, .ref v4, .int (Int32.ofInt 0)])) fun _ =>
  lm_bind (lm_gR 3646 x0) fun v5 =>
  lm_bind (lm_sel [(9, 257)] (some (.ref x0))) fun y6 =>
  lm_bind (lm_asI (A y6 [.ref x0])) fun v7 =>
  lm_bind (lm_sel [(5, 140), (6, 140), (7, 140)] (some (.ref x1))) fun y8 =>
  lm_bind (lm_asV (A y8 [.ref x1, .ref v5, .int (Int32.ofInt 0), .int ((Int32.ofInt 32) * v7)])) fun _ =>
  lm_ret none) (lm_bind (lm_gR 3638 x0) fun v9 =>
  lm_bind (lm_iald sc x2 x3) fun v10 =>
  lm_bind (lm_sel [(9, 301)] (some (.ref x0))) fun y11 =>
  lm_bind (lm_asI (A y11 [.ref x0, .int v10])) fun v12 =>
  lm_bind (lm_iast v9 x3 v12) fun _ =>
  B (2, [(0, .ref x0), (1, .ref x1), (2, .ref x2), (3, .int (x3 + Int32.ofInt 1))], []))
set_option maxRecDepth 100000 in
theorem lm_e297_2 {sc : lm_H} {d : Nat} {x0 : Nat} {x1 : Nat} {x2 : Nat} {x3 : Int32} {σ : lm_S} {r : Except Nat lm_R × lm_S} (h : lm_q297_2 sc (lm_cal sc d) (lm_rn sc d lm_m297.2.2.2.2.1 (lm_reg lm_m297.2.2.2.2.2)) x0 x1 x2 x3  σ = some r) : lm_rn sc d lm_m297.2.2.2.2.1 (lm_reg lm_m297.2.2.2.2.2) (2, [(0, .ref x0), (1, .ref x1), (2, .ref x2), (3, .int x3)], []) σ = some r := lm_rn_of h
/-- LatticeSuite$Dsa.finishMasks, from 0 on -/
noncomputable def lm_q298_0 (sc : lm_H) (A : Nat → List Value → lm_M lm_R) (B : lm_F → lm_M lm_R) (x0 : Nat) : lm_M lm_R :=
  lm_bind (lm_gI 3668 x0) fun v1 =>
  lm_bind (lm_iald sc (lm_B + 11) v1) fun v2 =>
  lm_bind (lm_sel [(9, 250)] (some (.ref x0))) fun y3 =>
  lm_bind (lm_asI (A y3 [.ref x0])) fun v4 =>
  B (16, [(0, .ref x0), (1, .int (v2 - v4)), (2, .int (Int32.ofInt 0))], [])
set_option maxRecDepth 100000 in
theorem lm_e298_0 {sc : lm_H} {d : Nat} {x0 : Nat} {σ : lm_S} {r : Except Nat lm_R × lm_S} (h : lm_q298_0 sc (lm_cal sc d) (lm_rn sc d lm_m298.2.2.2.2.1 (lm_reg lm_m298.2.2.2.2.2)) x0  σ = some r) : lm_rn sc d lm_m298.2.2.2.2.1 (lm_reg lm_m298.2.2.2.2.2) (0, [(0, .ref x0)], []) σ = some r := lm_rn_of h
/-- LatticeSuite$Dsa.finishMasks, from 16 on -/
noncomputable def lm_q298_16 (sc : lm_H) (A : Nat → List Value → lm_M lm_R) (B : lm_F → lm_M lm_R) (x0 : Nat) (x1 : Int32) (x2 : Int32) : lm_M lm_R :=
  lm_bind (lm_gI 3676 x0) fun v1 =>
  lm_if .ge x2 v1 (lm_when ((Int32.ofInt 1) = 0 ∨ (Int32.ofInt 1) = 1) inferInstance (lm_ret (some (.int (Int32.ofInt 1))))) (lm_bind (lm_gR 3614 x0) fun v2 =>
  lm_bind (lm_aaR sc v2 x2) fun v3 =>
  lm_bind (lm_sel [(9, 309)] (some (.ref x0))) fun y4 =>
  lm_bind (lm_asV (A y4 [.ref x0, .ref v3])) fun _ =>
  B (36, [(0, .ref x0), (1, .int x1), (2, .int x2), (3, .int (Int32.ofInt 0))], []))
set_option maxRecDepth 100000 in
theorem lm_e298_16 {sc : lm_H} {d : Nat} {x0 : Nat} {x1 : Int32} {x2 : Int32} {σ : lm_S} {r : Except Nat lm_R × lm_S} (h : lm_q298_16 sc (lm_cal sc d) (lm_rn sc d lm_m298.2.2.2.2.1 (lm_reg lm_m298.2.2.2.2.2)) x0 x1 x2  σ = some r) : lm_rn sc d lm_m298.2.2.2.2.1 (lm_reg lm_m298.2.2.2.2.2) (16, [(0, .ref x0), (1, .int x1), (2, .int x2)], []) σ = some r := lm_rn_of h
/-- LatticeSuite$Dsa.finishMasks, from 36 on -/
noncomputable def lm_q298_36 (sc : lm_H) (A : Nat → List Value → lm_M lm_R) (B : lm_F → lm_M lm_R) (x0 : Nat) (x1 : Int32) (x2 : Int32) (x3 : Int32) : lm_M lm_R :=
  lm_if .ge x3 (Int32.ofInt 256) (B (16, [(0, .ref x0), (1, .int x1), (2, .int (x2 + Int32.ofInt 1))], [])) (lm_bind (lm_gR 3622 x0) fun v1 =>
  lm_bind (lm_aaR sc v1 x2) fun v2 =>
  lm_bind (lm_iald sc v2 x3) fun v3 =>
  lm_bind (lm_gR 3638 x0) fun v4 =>
  lm_bind (lm_iald sc v4 x3) fun v5 =>
  lm_bind (lm_iast v2 x3 (v3 + v5)) fun _ =>
  lm_bind (lm_gR 3622 x0) fun v6 =>
  lm_bind (lm_aaR sc v6 x2) fun v7 =>
  lm_bind (lm_iald sc v7 x3) fun v8 =>
  lm_bind (lm_asI (A 253 [.int v8])) fun v9 =>
  lm_if .lt v9 x1 (B (36, [(0, .ref x0), (1, .int x1), (2, .int x2), (3, .int (x3 + Int32.ofInt 1))], [])) (lm_when ((Int32.ofInt 0) = 0 ∨ (Int32.ofInt 0) = 1) inferInstance (lm_ret (some (.int (Int32.ofInt 0))))))
set_option maxRecDepth 100000 in
theorem lm_e298_36 {sc : lm_H} {d : Nat} {x0 : Nat} {x1 : Int32} {x2 : Int32} {x3 : Int32} {σ : lm_S} {r : Except Nat lm_R × lm_S} (h : lm_q298_36 sc (lm_cal sc d) (lm_rn sc d lm_m298.2.2.2.2.1 (lm_reg lm_m298.2.2.2.2.2)) x0 x1 x2 x3  σ = some r) : lm_rn sc d lm_m298.2.2.2.2.1 (lm_reg lm_m298.2.2.2.2.2) (36, [(0, .ref x0), (1, .int x1), (2, .int x2), (3, .int x3)], []) σ = some r := lm_rn_of h
/-- LatticeSuite$Dsa.lowsAreSmall, from 0 on -/
noncomputable def lm_q299_0 (sc : lm_H) (A : Nat → List Value → lm_M lm_R) (B : lm_F → lm_M lm_R) (x0 : Nat) : lm_M lm_R :=
  lm_bind (lm_gI 3668 x0) fun v1 =>
  lm_bind (lm_iald sc (lm_B + 12) v1) fun v2 =>
  lm_bind (lm_sel [(9, 250)] (some (.ref x0))) fun y3 =>
  lm_bind (lm_asI (A y3 [.ref x0])) fun v4 =>
  B (16, [(0, .ref x0), (1, .int (v2 - v4)), (2, .int (Int32.ofInt 0))], [])
set_option maxRecDepth 100000 in
theorem lm_e299_0 {sc : lm_H} {d : Nat} {x0 : Nat} {σ : lm_S} {r : Except Nat lm_R × lm_S} (h : lm_q299_0 sc (lm_cal sc d) (lm_rn sc d lm_m299.2.2.2.2.1 (lm_reg lm_m299.2.2.2.2.2)) x0  σ = some r) : lm_rn sc d lm_m299.2.2.2.2.1 (lm_reg lm_m299.2.2.2.2.2) (0, [(0, .ref x0)], []) σ = some r := lm_rn_of h
/-- LatticeSuite$Dsa.lowsAreSmall, from 16 on -/
noncomputable def lm_q299_16 (sc : lm_H) (A : Nat → List Value → lm_M lm_R) (B : lm_F → lm_M lm_R) (x0 : Nat) (x1 : Int32) (x2 : Int32) : lm_M lm_R :=
  lm_bind (lm_gI 3672 x0) fun v1 =>
  lm_if .ge x2 v1 (lm_when ((Int32.ofInt 1) = 0 ∨ (Int32.ofInt 1) = 1) inferInstance (lm_ret (some (.int (Int32.ofInt 1))))) (lm_bind (lm_gR 3614 x0) fun v2 =>
  lm_bind (lm_gI 3676 x0) fun v3 =>
  lm_bind (lm_aaR sc v2 (v3 + x2)) fun v4 =>
  lm_bind (lm_sel [(9, 309)] (some (.ref x0))) fun y5 =>
  lm_bind (lm_asV (A y5 [.ref x0, .ref v4])) fun _ =>
  B (41, [(0, .ref x0), (1, .int x1), (2, .int x2), (3, .int (Int32.ofInt 0))], []))
set_option maxRecDepth 100000 in
theorem lm_e299_16 {sc : lm_H} {d : Nat} {x0 : Nat} {x1 : Int32} {x2 : Int32} {σ : lm_S} {r : Except Nat lm_R × lm_S} (h : lm_q299_16 sc (lm_cal sc d) (lm_rn sc d lm_m299.2.2.2.2.1 (lm_reg lm_m299.2.2.2.2.2)) x0 x1 x2  σ = some r) : lm_rn sc d lm_m299.2.2.2.2.1 (lm_reg lm_m299.2.2.2.2.2) (16, [(0, .ref x0), (1, .int x1), (2, .int x2)], []) σ = some r := lm_rn_of h
/-- LatticeSuite$Dsa.lowsAreSmall, from 41 on -/
noncomputable def lm_q299_41 (sc : lm_H) (A : Nat → List Value → lm_M lm_R) (B : lm_F → lm_M lm_R) (x0 : Nat) (x1 : Int32) (x2 : Int32) (x3 : Int32) : lm_M lm_R :=
  lm_if .ge x3 (Int32.ofInt 256) (B (16, [(0, .ref x0), (1, .int x1), (2, .int (x2 + Int32.ofInt 1))], [])) (lm_bind (lm_gR 3630 x0) fun v1 =>
  lm_bind (lm_aaR sc v1 x2) fun v2 =>
  lm_bind (lm_gR 3630 x0) fun v3 =>
  lm_bind (lm_aaR sc v3 x2) fun v4 =>
  lm_bind (lm_iald sc v4 x3) fun v5 =>
  lm_bind (lm_gR 3638 x0) fun v6 =>
  lm_bind (lm_iald sc v6 x3) fun v7 =>
  lm_bind (lm_asI (A 286 [.int (v5 - v7), .int (Int32.ofInt 8380417)])) fun v8 =>
  lm_bind (lm_iast v2 x3 v8) fun _ =>
  lm_bind (lm_gR 3630 x0) fun v9 =>
  lm_bind (lm_aaR sc v9 x2) fun v10 =>
  lm_bind (lm_iald sc v10 x3) fun v11 =>
  lm_bind (lm_sel [(9, 302)] (some (.ref x0))) fun y12 =>
  lm_bind (lm_asI (A y12 [.ref x0, .int v11])) fun v13 =>
  lm_bind (lm_asI (A 253 [.int v13])) fun v14 =>
  lm_if .lt v14 x1 (B (41, [(0, .ref x0), (1, .int x1), (2, .int x2), (3, .int (x3 + Int32.ofInt 1))], [])) (lm_when ((Int32.ofInt 0) = 0 ∨ (Int32.ofInt 0) = 1) inferInstance (lm_ret (some (.int (Int32.ofInt 0))))))
set_option maxRecDepth 100000 in
theorem lm_e299_41 {sc : lm_H} {d : Nat} {x0 : Nat} {x1 : Int32} {x2 : Int32} {x3 : Int32} {σ : lm_S} {r : Except Nat lm_R × lm_S} (h : lm_q299_41 sc (lm_cal sc d) (lm_rn sc d lm_m299.2.2.2.2.1 (lm_reg lm_m299.2.2.2.2.2)) x0 x1 x2 x3  σ = some r) : lm_rn sc d lm_m299.2.2.2.2.1 (lm_reg lm_m299.2.2.2.2.2) (41, [(0, .ref x0), (1, .int x1), (2, .int x2), (3, .int x3)], []) σ = some r := lm_rn_of h
/-- LatticeSuite$Dsa.makeHints, from 0 on -/
noncomputable def lm_q300_0 (sc : lm_H) (A : Nat → List Value → lm_M lm_R) (B : lm_F → lm_M lm_R) (x0 : Nat) : lm_M lm_R :=
  lm_bind (lm_gI 3668 x0) fun v1 =>
  lm_bind (lm_iald sc (lm_B + 15) v1) fun v2 =>
  lm_bind (lm_gR 3666 x0) fun v3 =>
  lm_bind (lm_asV (A 199 [.ref v3, .int (Int32.ofInt 0)])) fun _ =>
  B (21, [(0, .ref x0), (1, .int v2), (2, .int (Int32.ofInt 0)), (3, .int (Int32.ofInt 0))], [])
set_option maxRecDepth 100000 in
theorem lm_e300_0 {sc : lm_H} {d : Nat} {x0 : Nat} {σ : lm_S} {r : Except Nat lm_R × lm_S} (h : lm_q300_0 sc (lm_cal sc d) (lm_rn sc d lm_m300.2.2.2.2.1 (lm_reg lm_m300.2.2.2.2.2)) x0  σ = some r) : lm_rn sc d lm_m300.2.2.2.2.1 (lm_reg lm_m300.2.2.2.2.2) (0, [(0, .ref x0)], []) σ = some r := lm_rn_of h
/-- LatticeSuite$Dsa.makeHints, from 21 on -/
noncomputable def lm_q300_21 (sc : lm_H) (A : Nat → List Value → lm_M lm_R) (B : lm_F → lm_M lm_R) (x0 : Nat) (x1 : Int32) (x2 : Int32) (x3 : Int32) : lm_M lm_R :=
  lm_bind (lm_gI 3672 x0) fun v1 =>
  lm_if .ge x3 v1 (lm_when ((Int32.ofInt 1) = 0 ∨ (Int32.ofInt 1) = 1) inferInstance (lm_ret (some (.int (Int32.ofInt 1))))) (lm_bind (lm_gR 3618 x0) fun v2 =>
  lm_bind (lm_aaR sc v2 x3) fun v3 =>
  lm_bind (lm_sel [(9, 309)] (some (.ref x0))) fun y4 =>
  lm_bind (lm_asV (A y4 [.ref x0, .ref v3])) fun _ =>
  B (42, [(0, .ref x0), (1, .int x1), (2, .int x2), (3, .int x3), (4, .int (Int32.ofInt 0))], []))
set_option maxRecDepth 100000 in
theorem lm_e300_21 {sc : lm_H} {d : Nat} {x0 : Nat} {x1 : Int32} {x2 : Int32} {x3 : Int32} {σ : lm_S} {r : Except Nat lm_R × lm_S} (h : lm_q300_21 sc (lm_cal sc d) (lm_rn sc d lm_m300.2.2.2.2.1 (lm_reg lm_m300.2.2.2.2.2)) x0 x1 x2 x3  σ = some r) : lm_rn sc d lm_m300.2.2.2.2.1 (lm_reg lm_m300.2.2.2.2.2) (21, [(0, .ref x0), (1, .int x1), (2, .int x2), (3, .int x3)], []) σ = some r := lm_rn_of h
/-- LatticeSuite$Dsa.makeHints, from 42 on -/
noncomputable def lm_q300_42 (sc : lm_H) (A : Nat → List Value → lm_M lm_R) (B : lm_F → lm_M lm_R) (x0 : Nat) (x1 : Int32) (x2 : Int32) (x3 : Int32) (x4 : Int32) : lm_M lm_R :=
  lm_if .ge x4 (Int32.ofInt 256) (lm_bind (lm_gR 3666 x0) fun v1 =>
  lm_bind (lm_bast v1 (x1 + x3) (lm_b8 x2)) fun _ =>
  B (21, [(0, .ref x0), (1, .int x1), (2, .int x2), (3, .int (x3 + Int32.ofInt 1))], [])) (lm_bind (lm_gR 3638 x0) fun v2 =>
  lm_bind (lm_iald sc v2 x4) fun v3 =>
  lm_bind (lm_asI (A 253 [.int v3])) fun v4 =>
  lm_bind (lm_gI 3668 x0) fun v5 =>
  lm_bind (lm_iald sc (lm_B + 12) v5) fun v6 =>
  lm_if .lt v4 v6 (lm_bind (lm_gR 3630 x0) fun v7 =>
  lm_bind (lm_aaR sc v7 x3) fun v8 =>
  lm_bind (lm_iald sc v8 x4) fun v9 =>
  lm_bind (lm_gR 3638 x0) fun v10 =>
  lm_bind (lm_iald sc v10 x4) fun v11 =>
  lm_bind (lm_asI (A 286 [.int (v9 + v11), .int (Int32.ofInt 8380417)])) fun v12 =>
  lm_bind (lm_sel [(9, 301)] (some (.ref x0))) fun y13 =>
  lm_bind (lm_asI (A y13 [.ref x0, .int v12])) fun v14 =>
  lm_bind (lm_gR 3630 x0) fun v15 =>
  lm_bind (lm_aaR sc v15 x3) fun v16 =>
  lm_bind (lm_iald sc v16 x4) fun v17 =>
  lm_bind (lm_sel [(9, 301)] (some (.ref x0))) fun y18 =>
  lm_bind (lm_asI (A y18 [.ref x0, .int v17])) fun v19 =>
  lm_if .eq v14 v19 (B (134, [(0, .ref x0), (1, .int x1), (2, .int x2), (3, .int x3), (4, .int x4)], [])) (lm_if .ne x2 x1 (lm_bind (lm_gR 3666 x0) fun v20 =>
  lm_bind (lm_bast v20 x2 (lm_b8 x4)) fun _ =>
  B (134, [(0, .ref x0), (1, .int x1), (2, .int (x2 + Int32.ofInt 1)), (3, .int x3), (4, .int x4)], [])) (lm_when ((Int32.ofInt 0) = 0 ∨ (Int32.ofInt 0) = 1) inferInstance (lm_ret (some (.int (Int32.ofInt 0))))))) (lm_when ((Int32.ofInt 0) = 0 ∨ (Int32.ofInt 0) = 1) inferInstance (lm_ret (some (.int (Int32.ofInt 0))))))
set_option maxRecDepth 100000 in
theorem lm_e300_42 {sc : lm_H} {d : Nat} {x0 : Nat} {x1 : Int32} {x2 : Int32} {x3 : Int32} {x4 : Int32} {σ : lm_S} {r : Except Nat lm_R × lm_S} (h : lm_q300_42 sc (lm_cal sc d) (lm_rn sc d lm_m300.2.2.2.2.1 (lm_reg lm_m300.2.2.2.2.2)) x0 x1 x2 x3 x4  σ = some r) : lm_rn sc d lm_m300.2.2.2.2.1 (lm_reg lm_m300.2.2.2.2.2) (42, [(0, .ref x0), (1, .int x1), (2, .int x2), (3, .int x3), (4, .int x4)], []) σ = some r := lm_rn_of h
/-- LatticeSuite$Dsa.makeHints, from 134 on -/
noncomputable def lm_q300_134 (sc : lm_H) (A : Nat → List Value → lm_M lm_R) (B : lm_F → lm_M lm_R) (x0 : Nat) (x1 : Int32) (x2 : Int32) (x3 : Int32) (x4 : Int32) : lm_M lm_R :=
  B (42, [(0, .ref x0), (1, .int x1), (2, .int x2), (3, .int x3), (4, .int (x4 + Int32.ofInt 1))], [])
set_option maxRecDepth 100000 in
theorem lm_e300_134 {sc : lm_H} {d : Nat} {x0 : Nat} {x1 : Int32} {x2 : Int32} {x3 : Int32} {x4 : Int32} {σ : lm_S} {r : Except Nat lm_R × lm_S} (h : lm_q300_134 sc (lm_cal sc d) (lm_rn sc d lm_m300.2.2.2.2.1 (lm_reg lm_m300.2.2.2.2.2)) x0 x1 x2 x3 x4  σ = some r) : lm_rn sc d lm_m300.2.2.2.2.1 (lm_reg lm_m300.2.2.2.2.2) (134, [(0, .ref x0), (1, .int x1), (2, .int x2), (3, .int x3), (4, .int x4)], []) σ = some r := lm_rn_of h
/-- LatticeSuite$Dsa.high, from 0 on -/
noncomputable def lm_q301_0 (sc : lm_H) (A : Nat → List Value → lm_M lm_R) (B : lm_F → lm_M lm_R) (x0 : Nat) (x1 : Int32) : lm_M lm_R :=
  lm_bind (lm_sel [(9, 302)] (some (.ref x0))) fun y1 =>
  lm_bind (lm_asI (A y1 [.ref x0, .int x1])) fun v2 =>
  lm_if .ne (x1 - v2) (Int32.ofInt 8380417) (lm_bind (lm_gI 3668 x0) fun v3 =>
  lm_bind (lm_iald sc (lm_B + 12) v3) fun v4 =>
  lm_when (¬ ((Int32.ofInt 2) * v4) = 0) inferInstance (lm_ret (some (.int ((x1 - v2) / ((Int32.ofInt 2) * v4)))))) (lm_ret (some (.int (Int32.ofInt 0))))
set_option maxRecDepth 100000 in
theorem lm_e301_0 {sc : lm_H} {d : Nat} {x0 : Nat} {x1 : Int32} {σ : lm_S} {r : Except Nat lm_R × lm_S} (h : lm_q301_0 sc (lm_cal sc d) (lm_rn sc d lm_m301.2.2.2.2.1 (lm_reg lm_m301.2.2.2.2.2)) x0 x1  σ = some r) : lm_rn sc d lm_m301.2.2.2.2.1 (lm_reg lm_m301.2.2.2.2.2) (0, [(0, .ref x0), (1, .int x1)], []) σ = some r := lm_rn_of h
/-- LatticeSuite$Dsa.low, from 0 on -/
noncomputable def lm_q302_0 (sc : lm_H) (A : Nat → List Value → lm_M lm_R) (B : lm_F → lm_M lm_R) (x0 : Nat) (x1 : Int32) : lm_M lm_R :=
  lm_bind (lm_gI 3668 x0) fun v1 =>
  lm_bind (lm_iald sc (lm_B + 12) v1) fun v2 =>
  lm_when (¬ ((Int32.ofInt 2) * v2) = 0) inferInstance (lm_if .le (lm_rem x1 ((Int32.ofInt 2) * v2)) v2 (B (26, [(1, .int x1), (3, .int (lm_rem x1 ((Int32.ofInt 2) * v2)))], [])) (B (26, [(1, .int x1), (3, .int ((lm_rem x1 ((Int32.ofInt 2) * v2)) - ((Int32.ofInt 2) * v2)))], [])))
set_option maxRecDepth 100000 in
theorem lm_e302_0 {sc : lm_H} {d : Nat} {x0 : Nat} {x1 : Int32} {σ : lm_S} {r : Except Nat lm_R × lm_S} (h : lm_q302_0 sc (lm_cal sc d) (lm_rn sc d lm_m302.2.2.2.2.1 (lm_reg lm_m302.2.2.2.2.2)) x0 x1  σ = some r) : lm_rn sc d lm_m302.2.2.2.2.1 (lm_reg lm_m302.2.2.2.2.2) (0, [(0, .ref x0), (1, .int x1)], []) σ = some r := lm_rn_of h
/-- LatticeSuite$Dsa.low, from 26 on -/
noncomputable def lm_q302_26 (sc : lm_H) (A : Nat → List Value → lm_M lm_R) (B : lm_F → lm_M lm_R) (x1 : Int32) (x3 : Int32) : lm_M lm_R :=
  lm_if .ne (x1 - x3) (Int32.ofInt 8380416) (lm_ret (some (.int x3))) (lm_ret (some (.int (x3 - (Int32.ofInt 1)))))
set_option maxRecDepth 100000 in
theorem lm_e302_26 {sc : lm_H} {d : Nat} {x1 : Int32} {x3 : Int32} {σ : lm_S} {r : Except Nat lm_R × lm_S} (h : lm_q302_26 sc (lm_cal sc d) (lm_rn sc d lm_m302.2.2.2.2.1 (lm_reg lm_m302.2.2.2.2.2)) x1 x3  σ = some r) : lm_rn sc d lm_m302.2.2.2.2.1 (lm_reg lm_m302.2.2.2.2.2) (26, [(1, .int x1), (3, .int x3)], []) σ = some r := lm_rn_of h
/-- LatticeSuite$Slh.forestBytes, from 0 on -/
noncomputable def lm_q303_0 (sc : lm_H) (A : Nat → List Value → lm_M lm_R) (B : lm_F → lm_M lm_R) (x0 : Nat) : lm_M lm_R :=
  lm_bind (lm_gI 4032 x0) fun v1 =>
  lm_bind (lm_gI 4028 x0) fun v2 =>
  lm_when (¬ (Int32.ofInt 8) = 0) inferInstance (lm_ret (some (.int (((v1 * v2) + (Int32.ofInt 7)) / (Int32.ofInt 8)))))
set_option maxRecDepth 100000 in
theorem lm_e303_0 {sc : lm_H} {d : Nat} {x0 : Nat} {σ : lm_S} {r : Except Nat lm_R × lm_S} (h : lm_q303_0 sc (lm_cal sc d) (lm_rn sc d lm_m303.2.2.2.2.1 (lm_reg lm_m303.2.2.2.2.2)) x0  σ = some r) : lm_rn sc d lm_m303.2.2.2.2.1 (lm_reg lm_m303.2.2.2.2.2) (0, [(0, .ref x0)], []) σ = some r := lm_rn_of h
/-- LatticeSuite$Slh.treeBytes, from 0 on -/
noncomputable def lm_q304_0 (sc : lm_H) (A : Nat → List Value → lm_M lm_R) (B : lm_F → lm_M lm_R) (x0 : Nat) : lm_M lm_R :=
  lm_bind (lm_gI 4040 x0) fun v1 =>
  lm_when (¬ (Int32.ofInt 8) = 0) inferInstance (lm_ret (some (.int ((v1 + (Int32.ofInt 7)) / (Int32.ofInt 8)))))
set_option maxRecDepth 100000 in
theorem lm_e304_0 {sc : lm_H} {d : Nat} {x0 : Nat} {σ : lm_S} {r : Except Nat lm_R × lm_S} (h : lm_q304_0 sc (lm_cal sc d) (lm_rn sc d lm_m304.2.2.2.2.1 (lm_reg lm_m304.2.2.2.2.2)) x0  σ = some r) : lm_rn sc d lm_m304.2.2.2.2.1 (lm_reg lm_m304.2.2.2.2.2) (0, [(0, .ref x0)], []) σ = some r := lm_rn_of h
/-- LatticeSuite$Slh.climb, from 0 on -/
noncomputable def lm_q305_0 (sc : lm_H) (A : Nat → List Value → lm_M lm_R) (B : lm_F → lm_M lm_R) (x0 : Nat) (x1 : Int32) (x2 : Int32) (x3 : Int32) (x4 : Int32) (x5 : Nat) (x6 : Int32) : lm_M lm_R :=
  B (3, [(0, .ref x0), (1, .int x1), (2, .int x2), (3, .int x3), (4, .int x4), (5, .ref x5), (6, .int x6), (7, .int (Int32.ofInt 0))], [])
set_option maxRecDepth 100000 in
theorem lm_e305_0 {sc : lm_H} {d : Nat} {x0 : Nat} {x1 : Int32} {x2 : Int32} {x3 : Int32} {x4 : Int32} {x5 : Nat} {x6 : Int32} {σ : lm_S} {r : Except Nat lm_R × lm_S} (h : lm_q305_0 sc (lm_cal sc d) (lm_rn sc d lm_m305.2.2.2.2.1 (lm_reg lm_m305.2.2.2.2.2)) x0 x1 x2 x3 x4 x5 x6  σ = some r) : lm_rn sc d lm_m305.2.2.2.2.1 (lm_reg lm_m305.2.2.2.2.2) (0, [(0, .ref x0), (1, .int x1), (2, .int x2), (3, .int x3), (4, .int x4), (5, .ref x5), (6, .int x6)], []) σ = some r := lm_rn_of h
/-- LatticeSuite$Slh.climb, from 3 on -/
noncomputable def lm_q305_3 (sc : lm_H) (A : Nat → List Value → lm_M lm_R) (B : lm_F → lm_M lm_R) (x0 : Nat) (x1 : Int32) (x2 : Int32) (x3 : Int32) (x4 : Int32) (x5 : Nat) (x6 : Int32) (x7 : Int32) : lm_M lm_R :=
  lm_if .ge x7 x4 (lm_ret none) (lm_bind (lm_gI 4016 x0) fun v1 =>
  lm_bind (lm_gR 4058 x0) fun v2 =>
  lm_bind (lm_gR 4062 x0) fun v3 =>
  lm_bind (lm_gI 4016 x0) fun v4 =>
  lm_bind (lm_copy sc v2 (Int32.ofInt 0) v3 (((x3 >>> (x7 &&& 31)) &&& (Int32.ofInt 1)) * v1) v4) fun _ =>
  lm_bind (lm_gI 4016 x0) fun v5 =>
  lm_bind (lm_gR 4062 x0) fun v6 =>
  lm_bind (lm_gI 4016 x0) fun v7 =>
  lm_bind (lm_gI 4016 x0) fun v8 =>
  lm_bind (lm_copy sc x5 (x6 + (x7 * v5)) v6 (v7 - (((x3 >>> (x7 &&& 31)) &&& (Int32.ofInt 1)) * v1)) v8) fun _ =>
  lm_bind (lm_sel [(10, 263)] (some (.ref x0))) fun y9 =>
  lm_bind (lm_asV (A y9 [.ref x0, .int x1, .int x2, .int (x7 + (Int32.ofInt 1)), .int (x3 >>> ((x7 + (Int32.ofInt 1)) &&& 31))])) fun _ =>
  lm_bind (lm_gR 4062 x0) fun v10 =>
  lm_bind (lm_gI 4016 x0) fun v11 =>
  lm_bind (lm_gR 4058 x0) fun v12 =>
  lm_bind (lm_sel [(10, 264)] (some (.ref x0))) fun y13 =>
  lm_bind (lm_asV (A y13 [.ref x0, .ref v10, .int (Int32.ofInt 0), .int ((Int32.ofInt 2) * v11), .ref v12, .int (Int32.ofInt 0)])) fun _ =>
  B (3, [(0, .ref x0), (1, .int x1), (2, .int x2), (3, .int x3), (4, .int x4), (5, .ref x5), (6, .int x6), (7, .int (x7 + Int32.ofInt 1))], []))
set_option maxRecDepth 100000 in
theorem lm_e305_3 {sc : lm_H} {d : Nat} {x0 : Nat} {x1 : Int32} {x2 : Int32} {x3 : Int32} {x4 : Int32} {x5 : Nat} {x6 : Int32} {x7 : Int32} {σ : lm_S} {r : Except Nat lm_R × lm_S} (h : lm_q305_3 sc (lm_cal sc d) (lm_rn sc d lm_m305.2.2.2.2.1 (lm_reg lm_m305.2.2.2.2.2)) x0 x1 x2 x3 x4 x5 x6 x7  σ = some r) : lm_rn sc d lm_m305.2.2.2.2.1 (lm_reg lm_m305.2.2.2.2.2) (3, [(0, .ref x0), (1, .int x1), (2, .int x2), (3, .int x3), (4, .int x4), (5, .ref x5), (6, .int x6), (7, .int x7)], []) σ = some r := lm_rn_of h
/-- LatticeSuite$Slh.fillDigits, from 0 on -/
noncomputable def lm_q306_0 (sc : lm_H) (A : Nat → List Value → lm_M lm_R) (B : lm_F → lm_M lm_R) (x0 : Nat) : lm_M lm_R :=
  B (4, [(0, .ref x0), (1, .int (Int32.ofInt 0)), (2, .int (Int32.ofInt 0))], [])
set_option maxRecDepth 100000 in
theorem lm_e306_0 {sc : lm_H} {d : Nat} {x0 : Nat} {σ : lm_S} {r : Except Nat lm_R × lm_S} (h : lm_q306_0 sc (lm_cal sc d) (lm_rn sc d lm_m306.2.2.2.2.1 (lm_reg lm_m306.2.2.2.2.2)) x0  σ = some r) : lm_rn sc d lm_m306.2.2.2.2.1 (lm_reg lm_m306.2.2.2.2.2) (0, [(0, .ref x0)], []) σ = some r := lm_rn_of h
/-- LatticeSuite$Slh.fillDigits, from 4 on -/
noncomputable def lm_q306_4 (sc : lm_H) (A : Nat → List Value → lm_M lm_R) (B : lm_F → lm_M lm_R) (x0 : Nat) (x1 : Int32) (x2 : Int32) : lm_M lm_R :=
  lm_bind (lm_gI 4016 x0) fun v1 =>
  lm_if .ge x2 ((Int32.ofInt 2) * v1) (lm_bind (lm_gR 4078 x0) fun v2 =>
  lm_bind (lm_gI 4016 x0) fun v3 =>
  lm_bind (lm_iast v2 ((Int32.ofInt 2) * v3) ((x1 >>> ((Int32.ofInt 8) &&& 31)) &&& (Int32.ofInt 15))) fun _ =>
  lm_bind (lm_gR 4078 x0) fun v4 =>
  lm_bind (lm_gI 4016 x0) fun v5 =>
  lm_bind (lm_iast v4 (((Int32.ofInt 2) * v5) + (Int32.ofInt 1)) ((x1 >>> ((Int32.ofInt 4) &&& 31)) &&& (Int32.ofInt 15))) fun _ =>
  lm_bind (lm_gR 4078 x0) fun v6 =>
  lm_bind (lm_gI 4016 x0) fun v7 =>
  lm_bind (lm_iast v6 (((Int32.ofInt 2) * v7) + (Int32.ofInt 2)) (x1 &&& (Int32.ofInt 15))) fun _ =>
  lm_ret none) (lm_bind (lm_gR 4078 x0) fun v8 =>
  lm_bind (lm_gR 4058 x0) fun v9 =>
  lm_bind (lm_bald sc v9 (x2 >>> ((Int32.ofInt 1) &&& 31))) fun v10 =>
  lm_when (¬ (Int32.ofInt 2) = 0) inferInstance (lm_if .ne (lm_rem x2 (Int32.ofInt 2)) 0 (B (38, [(0, .ref x0), (1, .int x1), (2, .int x2)], [.int (Int32.ofInt 0), .int v10, .int x2, .ref v8])) (B (38, [(0, .ref x0), (1, .int x1), (2, .int x2)], [.int (Int32.ofInt 4), .int v10, .int x2, .ref v8]))))
set_option maxRecDepth 100000 in
theorem lm_e306_4 {sc : lm_H} {d : Nat} {x0 : Nat} {x1 : Int32} {x2 : Int32} {σ : lm_S} {r : Except Nat lm_R × lm_S} (h : lm_q306_4 sc (lm_cal sc d) (lm_rn sc d lm_m306.2.2.2.2.1 (lm_reg lm_m306.2.2.2.2.2)) x0 x1 x2  σ = some r) : lm_rn sc d lm_m306.2.2.2.2.1 (lm_reg lm_m306.2.2.2.2.2) (4, [(0, .ref x0), (1, .int x1), (2, .int x2)], []) σ = some r := lm_rn_of h
/-- LatticeSuite$Slh.fillDigits, from 38 on -/
noncomputable def lm_q306_38 (sc : lm_H) (A : Nat → List Value → lm_M lm_R) (B : lm_F → lm_M lm_R) (x0 : Nat) (x1 : Int32) (x2 : Int32) (s0 : Int32) (s1 : Int32) (s2 : Int32) (s3 : Nat) : lm_M lm_R :=
  lm_bind (lm_iast s3 s2 ((s1 >>> (s0 &&& 31)) &&& (Int32.ofInt 15))) fun _ =>
  lm_bind (lm_gR 4078 x0) fun v1 =>
  lm_bind (lm_iald sc v1 x2) fun v2 =>
  B (4, [(0, .ref x0), (1, .int (x1 + ((Int32.ofInt 15) - v2))), (2, .int (x2 + Int32.ofInt 1))], [])
set_option maxRecDepth 100000 in
theorem lm_e306_38 {sc : lm_H} {d : Nat} {x0 : Nat} {x1 : Int32} {x2 : Int32} {s0 : Int32} {s1 : Int32} {s2 : Int32} {s3 : Nat} {σ : lm_S} {r : Except Nat lm_R × lm_S} (h : lm_q306_38 sc (lm_cal sc d) (lm_rn sc d lm_m306.2.2.2.2.1 (lm_reg lm_m306.2.2.2.2.2)) x0 x1 x2 s0 s1 s2 s3 σ = some r) : lm_rn sc d lm_m306.2.2.2.2.1 (lm_reg lm_m306.2.2.2.2.2) (38, [(0, .ref x0), (1, .int x1), (2, .int x2)], [.int s0, .int s1, .int s2, .ref s3]) σ = some r := lm_rn_of h
/-- LatticeSuite$Slh.chain, from 0 on -/
noncomputable def lm_q307_0 (sc : lm_H) (A : Nat → List Value → lm_M lm_R) (B : lm_F → lm_M lm_R) (x0 : Nat) (x1 : Int32) (x2 : Int32) (x3 : Int32) (x4 : Int32) (x5 : Nat) (x6 : Int32) : lm_M lm_R :=
  lm_bind (lm_sel [(10, 263)] (some (.ref x0))) fun y1 =>
  lm_bind (lm_asV (A y1 [.ref x0, .int (Int32.ofInt 0), .int x1, .int x2, .int x3])) fun _ =>
  lm_bind (lm_gI 4015 x0) fun v2 =>
  lm_if .eq v2 0 (B (22, [(0, .ref x0), (3, .int x3), (4, .int x4), (5, .ref x5), (6, .int x6)], [.int (Int32.ofInt 22)])) (B (22, [(0, .ref x0), (3, .int x3), (4, .int x4), (5, .ref x5), (6, .int x6)], [.int (Int32.ofInt 32)]))
set_option maxRecDepth 100000 in
theorem lm_e307_0 {sc : lm_H} {d : Nat} {x0 : Nat} {x1 : Int32} {x2 : Int32} {x3 : Int32} {x4 : Int32} {x5 : Nat} {x6 : Int32} {σ : lm_S} {r : Except Nat lm_R × lm_S} (h : lm_q307_0 sc (lm_cal sc d) (lm_rn sc d lm_m307.2.2.2.2.1 (lm_reg lm_m307.2.2.2.2.2)) x0 x1 x2 x3 x4 x5 x6  σ = some r) : lm_rn sc d lm_m307.2.2.2.2.1 (lm_reg lm_m307.2.2.2.2.2) (0, [(0, .ref x0), (1, .int x1), (2, .int x2), (3, .int x3), (4, .int x4), (5, .ref x5), (6, .int x6)], []) σ = some r := lm_rn_of h
/-- LatticeSuite$Slh.chain, from 22 on -/
noncomputable def lm_q307_22 (sc : lm_H) (A : Nat → List Value → lm_M lm_R) (B : lm_F → lm_M lm_R) (x0 : Nat) (x3 : Int32) (x4 : Int32) (x5 : Nat) (x6 : Int32) (s0 : Int32) : lm_M lm_R :=
  B (27, [(0, .ref x0), (3, .int x3), (4, .int x4), (5, .ref x5), (6, .int x6), (7, .int s0), (8, .int x3)], [])
set_option maxRecDepth 100000 in
theorem lm_e307_22 {sc : lm_H} {d : Nat} {x0 : Nat} {x3 : Int32} {x4 : Int32} {x5 : Nat} {x6 : Int32} {s0 : Int32} {σ : lm_S} {r : Except Nat lm_R × lm_S} (h : lm_q307_22 sc (lm_cal sc d) (lm_rn sc d lm_m307.2.2.2.2.1 (lm_reg lm_m307.2.2.2.2.2)) x0 x3 x4 x5 x6 s0 σ = some r) : lm_rn sc d lm_m307.2.2.2.2.1 (lm_reg lm_m307.2.2.2.2.2) (22, [(0, .ref x0), (3, .int x3), (4, .int x4), (5, .ref x5), (6, .int x6)], [.int s0]) σ = some r := lm_rn_of h
/-- LatticeSuite$Slh.chain, from 27 on -/
noncomputable def lm_q307_27 (sc : lm_H) (A : Nat → List Value → lm_M lm_R) (B : lm_F → lm_M lm_R) (x0 : Nat) (x3 : Int32) (x4 : Int32) (x5 : Nat) (x6 : Int32) (x7 : Int32) (x8 : Int32) : lm_M lm_R :=
  lm_if .ge x8 (x3 + x4) (lm_ret none) (lm_bind (lm_gR 4050 x0) fun v1 =>
  lm_bind (lm_bast v1 (x7 - (Int32.ofInt 1)) (lm_b8 x8)) fun _ =>
  lm_bind (lm_gR 4006 x0) fun v2 =>
  lm_bind (lm_sel [(5, 210), (6, 210), (7, 210)] (some (.ref v2))) fun y3 =>
  lm_bind (lm_asV (A y3 [.ref v2])) fun _ =>
  lm_bind (lm_gR 4006 x0) fun v4 =>
  lm_bind (lm_gR 4050 x0) fun v5 =>
  lm_bind (lm_sel [(5, 140), (6, 140), (7, 140)] (some (.ref v4))) fun y6 =>
  lm_bind (lm_asV (A y6 [.ref v4, .ref v5, .int (Int32.ofInt 0), .int x7])) fun _ =>
  lm_bind (lm_gR 4006 x0) fun v7 =>
  lm_bind (lm_gI 4016 x0) fun v8 =>
  lm_bind (lm_sel [(5, 140), (6, 140), (7, 140)] (some (.ref v7))) fun y9 =>
  lm_bind (lm_asV (A y9 [.ref v7, .ref x5, .int x6, .int v8])) fun _ =>
  lm_bind (lm_gR 4006 x0) fun v10 =>
  lm_bind (lm_gI 4016 x0) fun v11 =>
  lm_bind (lm_sel [(5, 143), (6, 144), (7, 145)] (some (.ref v10))) fun y12 =>
  lm_bind (lm_asV (A y12 [.ref v10, .ref x5, .int x6, .int v11])) fun _ =>
  B (27, [(0, .ref x0), (3, .int x3), (4, .int x4), (5, .ref x5), (6, .int x6), (7, .int x7), (8, .int (x8 + Int32.ofInt 1))], []))
set_option maxRecDepth 100000 in
theorem lm_e307_27 {sc : lm_H} {d : Nat} {x0 : Nat} {x3 : Int32} {x4 : Int32} {x5 : Nat} {x6 : Int32} {x7 : Int32} {x8 : Int32} {σ : lm_S} {r : Except Nat lm_R × lm_S} (h : lm_q307_27 sc (lm_cal sc d) (lm_rn sc d lm_m307.2.2.2.2.1 (lm_reg lm_m307.2.2.2.2.2)) x0 x3 x4 x5 x6 x7 x8  σ = some r) : lm_rn sc d lm_m307.2.2.2.2.1 (lm_reg lm_m307.2.2.2.2.2) (27, [(0, .ref x0), (3, .int x3), (4, .int x4), (5, .ref x5), (6, .int x6), (7, .int x7), (8, .int x8)], []) σ = some r := lm_rn_of h
/-- LatticeSuite$Slh.markSeed, from 0 on -/
noncomputable def lm_q308_0 (sc : lm_H) (A : Nat → List Value → lm_M lm_R) (B : lm_F → lm_M lm_R) (x0 : Nat) (x1 : Int32) (x2 : Nat) (x3 : Int32) : lm_M lm_R :=
  lm_bind (lm_gR 4002 x0) fun v1 =>
  lm_bind (lm_sel [(2, 139)] (some (.ref v1))) fun y2 =>
  lm_bind (lm_asR (A y2 [.ref v1, .int x1])) fun v3 =>
  lm_bind (lm_gI 4016 x0) fun v4 =>
  lm_bind (lm_sel [(5, 140), (6, 140), (7, 140)] (some (.ref v3))) fun y5 =>
  lm_bind (lm_asV (A y5 [.ref v3, .ref x2, .int x3, .int v4])) fun _ =>
  lm_bind (lm_gI 4015 x0) fun v6 =>
  lm_if .ne v6 0 (lm_bind (lm_sel [(5, 209), (6, 209), (7, 209)] (some (.ref v3))) fun y7 =>
  lm_bind (lm_asV (A y7 [.ref v3])) fun _ =>
  lm_ret none) (lm_bind (lm_gR 4066 x0) fun v8 =>
  lm_bind (lm_gI 1204 v3) fun v9 =>
  lm_bind (lm_asV (A 134 [.ref v8, .int (Int32.ofInt 0), .int v9, .int (Int32.ofInt 0)])) fun _ =>
  lm_bind (lm_gR 4066 x0) fun v10 =>
  lm_bind (lm_gI 1204 v3) fun v11 =>
  lm_bind (lm_gI 4016 x0) fun v12 =>
  lm_bind (lm_sel [(5, 140), (6, 140), (7, 140)] (some (.ref v3))) fun y13 =>
  lm_bind (lm_asV (A y13 [.ref v3, .ref v10, .int (Int32.ofInt 0), .int (v11 - v12)])) fun _ =>
  lm_bind (lm_sel [(5, 209), (6, 209), (7, 209)] (some (.ref v3))) fun y14 =>
  lm_bind (lm_asV (A y14 [.ref v3])) fun _ =>
  lm_ret none)
set_option maxRecDepth 100000 in
theorem lm_e308_0 {sc : lm_H} {d : Nat} {x0 : Nat} {x1 : Int32} {x2 : Nat} {x3 : Int32} {σ : lm_S} {r : Except Nat lm_R × lm_S} (h : lm_q308_0 sc (lm_cal sc d) (lm_rn sc d lm_m308.2.2.2.2.1 (lm_reg lm_m308.2.2.2.2.2)) x0 x1 x2 x3  σ = some r) : lm_rn sc d lm_m308.2.2.2.2.1 (lm_reg lm_m308.2.2.2.2.2) (0, [(0, .ref x0), (1, .int x1), (2, .ref x2), (3, .int x3)], []) σ = some r := lm_rn_of h
/-- LatticeSuite$Dsa.multiplyBall, from 0 on -/
noncomputable def lm_q309_0 (sc : lm_H) (A : Nat → List Value → lm_M lm_R) (B : lm_F → lm_M lm_R) (x0 : Nat) (x1 : Nat) : lm_M lm_R :=
  B (2, [(0, .ref x0), (1, .ref x1), (2, .int (Int32.ofInt 0))], [])
set_option maxRecDepth 100000 in
theorem lm_e309_0 {sc : lm_H} {d : Nat} {x0 : Nat} {x1 : Nat} {σ : lm_S} {r : Except Nat lm_R × lm_S} (h : lm_q309_0 sc (lm_cal sc d) (lm_rn sc d lm_m309.2.2.2.2.1 (lm_reg lm_m309.2.2.2.2.2)) x0 x1  σ = some r) : lm_rn sc d lm_m309.2.2.2.2.1 (lm_reg lm_m309.2.2.2.2.2) (0, [(0, .ref x0), (1, .ref x1)], []) σ = some r := lm_rn_of h
/-- LatticeSuite$Dsa.multiplyBall, from 2 on -/
noncomputable def lm_q309_2 (sc : lm_H) (A : Nat → List Value → lm_M lm_R) (B : lm_F → lm_M lm_R) (x0 : Nat) (x1 : Nat) (x2 : Int32) : lm_M lm_R :=
  lm_if .ge x2 (Int32.ofInt 256) (lm_bind (lm_gR 3638 x0) fun v1 =>
  lm_bind (lm_sel [(9, 238)] (some (.ref x0))) fun y2 =>
  lm_bind (lm_asV (A y2 [.ref x0, .ref v1])) fun _ =>
  B (48, [(0, .ref x0), (2, .int (Int32.ofInt 0))], [])) (lm_bind (lm_gR 3638 x0) fun v3 =>
  lm_bind (lm_gR 3634 x0) fun v4 =>
  lm_bind (lm_iald sc v4 x2) fun v5 =>
  lm_bind (lm_iald sc x1 x2) fun v6 =>
  lm_when (¬ (Int64.ofNat 8380417) = 0) inferInstance (lm_bind (lm_iast v3 x2 (Int64.toInt32 (lm_remL ((Int32.toInt64 v5) * (Int32.toInt64 v6)) (Int64.ofNat 8380417)))) fun _ =>
  B (2, [(0, .ref x0), (1, .ref x1), (2, .int (x2 + Int32.ofInt 1))], [])))
set_option maxRecDepth 100000 in
theorem lm_e309_2 {sc : lm_H} {d : Nat} {x0 : Nat} {x1 : Nat} {x2 : Int32} {σ : lm_S} {r : Except Nat lm_R × lm_S} (h : lm_q309_2 sc (lm_cal sc d) (lm_rn sc d lm_m309.2.2.2.2.1 (lm_reg lm_m309.2.2.2.2.2)) x0 x1 x2  σ = some r) : lm_rn sc d lm_m309.2.2.2.2.1 (lm_reg lm_m309.2.2.2.2.2) (2, [(0, .ref x0), (1, .ref x1), (2, .int x2)], []) σ = some r := lm_rn_of h
/-- LatticeSuite$Dsa.multiplyBall, from 48 on -/
noncomputable def lm_q309_48 (sc : lm_H) (A : Nat → List Value → lm_M lm_R) (B : lm_F → lm_M lm_R) (x0 : Nat) (x2 : Int32) : lm_M lm_R :=
  lm_if .ge x2 (Int32.ofInt 256) (lm_ret none) (lm_bind (lm_gR 3638 x0) fun v1 =>
  lm_bind (lm_gR 3638 x0) fun v2 =>
  lm_bind (lm_iald sc v2 x2) fun v3 =>
  lm_bind (lm_asI (A 310 [.int v3])) fun v4 =>
  lm_bind (lm_iast v1 x2 v4) fun _ =>
  B (48, [(0, .ref x0), (2, .int (x2 + Int32.ofInt 1))], []))
set_option maxRecDepth 100000 in
theorem lm_e309_48 {sc : lm_H} {d : Nat} {x0 : Nat} {x2 : Int32} {σ : lm_S} {r : Except Nat lm_R × lm_S} (h : lm_q309_48 sc (lm_cal sc d) (lm_rn sc d lm_m309.2.2.2.2.1 (lm_reg lm_m309.2.2.2.2.2)) x0 x2  σ = some r) : lm_rn sc d lm_m309.2.2.2.2.1 (lm_reg lm_m309.2.2.2.2.2) (48, [(0, .ref x0), (2, .int x2)], []) σ = some r := lm_rn_of h
/-- LatticeSuite$Dsa.centred, from 0 on -/
noncomputable def lm_q310_0 (sc : lm_H) (A : Nat → List Value → lm_M lm_R) (B : lm_F → lm_M lm_R) (x0 : Int32) : lm_M lm_R :=
  lm_if .le x0 (Int32.ofInt 4190208) (lm_ret (some (.int x0))) (lm_ret (some (.int (x0 - (Int32.ofInt 8380417)))))
set_option maxRecDepth 100000 in
theorem lm_e310_0 {sc : lm_H} {d : Nat} {x0 : Int32} {σ : lm_S} {r : Except Nat lm_R × lm_S} (h : lm_q310_0 sc (lm_cal sc d) (lm_rn sc d lm_m310.2.2.2.2.1 (lm_reg lm_m310.2.2.2.2.2)) x0  σ = some r) : lm_rn sc d lm_m310.2.2.2.2.1 (lm_reg lm_m310.2.2.2.2.2) (0, [(0, .int x0)], []) σ = some r := lm_rn_of h
