/-! ===== the rows, a method each ===== -/
theorem lm_g0 : lm_goodY lm_W0 lm_cl lm_dfs lm_vts lm_P lm_m0 := lm_good_of (i := 0) (z := (39, [])) (t := lm_tb0) (ini := true) (pf := lm_pf0) rfl rfl rfl (fun _ => rfl) (fun _ => rfl) rfl (plainFor_of_name lm_pn0) lm_k_tb0 lm_k_pf0 lm_c0
theorem lm_g1 : lm_goodY lm_W0 lm_cl lm_dfs lm_vts lm_P lm_m1 := lm_good_of (i := 1) (z := (1737, [])) (t := lm_tb11) (ini := true) (pf := lm_pf11) rfl rfl rfl (fun _ => rfl) (fun _ => rfl) rfl (plainFor_of_name lm_pn11) lm_k_tb11 lm_k_pf11 lm_c1
theorem lm_g2 : lm_goodY lm_W0 lm_cl lm_dfs lm_vts lm_P lm_m2 := lm_good_of (i := 2) (z := (460, [(0, 16, 19, 13)])) (t := lm_tb12) (ini := false) (pf := lm_pf12) rfl rfl rfl (fun h => Bool.noConfusion h) (fun h => absurd (congrArg List.isEmpty h) Bool.false_ne_true) rfl (plainFor_of_name lm_pn12) lm_k_tb12 lm_k_pf12 lm_c2
theorem lm_g3 : lm_goodY lm_W0 lm_cl lm_dfs lm_vts lm_P lm_m3 := lm_good_of (i := 3) (z := (2054, [])) (t := lm_tb11) (ini := false) (pf := lm_pf11) rfl rfl rfl (fun h => Bool.noConfusion h) (fun _ => rfl) rfl (plainFor_of_name lm_pn11) lm_k_tb11 lm_k_pf11 lm_c3
theorem lm_g4 : lm_goodY lm_W0 lm_cl lm_dfs lm_vts lm_P lm_m4 := lm_good_of (i := 4) (z := (2050, [])) (t := lm_tb11) (ini := false) (pf := lm_pf11) rfl rfl rfl (fun h => Bool.noConfusion h) (fun _ => rfl) rfl (plainFor_of_name lm_pn11) lm_k_tb11 lm_k_pf11 lm_c4
theorem lm_g5 : lm_goodY lm_W0 lm_cl lm_dfs lm_vts lm_P lm_m5 := lm_good_of (i := 5) (z := (542, [(0, 10, 13, 19), (0, 10, 17, 13)])) (t := lm_tb12) (ini := false) (pf := lm_pf12) rfl rfl rfl (fun h => Bool.noConfusion h) (fun h => absurd (congrArg List.isEmpty h) Bool.false_ne_true) rfl (plainFor_of_name lm_pn12) lm_k_tb12 lm_k_pf12 lm_c5
theorem lm_g6 : lm_goodY lm_W0 lm_cl lm_dfs lm_vts lm_P lm_m6 := lm_good_of (i := 6) (z := (2066, [])) (t := lm_tb11) (ini := false) (pf := lm_pf11) rfl rfl rfl (fun h => Bool.noConfusion h) (fun _ => rfl) rfl (plainFor_of_name lm_pn11) lm_k_tb11 lm_k_pf11 lm_c6
theorem lm_g7 : lm_goodY lm_W0 lm_cl lm_dfs lm_vts lm_P lm_m7 := lm_good_of (i := 7) (z := (577, [(0, 10, 13, 19)])) (t := lm_tb12) (ini := false) (pf := lm_pf12) rfl rfl rfl (fun h => Bool.noConfusion h) (fun h => absurd (congrArg List.isEmpty h) Bool.false_ne_true) rfl (plainFor_of_name lm_pn12) lm_k_tb12 lm_k_pf12 lm_c7
theorem lm_g8 : lm_goodY lm_W0 lm_cl lm_dfs lm_vts lm_P lm_m8 := lm_good_of (i := 8) (z := (2073, [])) (t := lm_tb11) (ini := false) (pf := lm_pf11) rfl rfl rfl (fun h => Bool.noConfusion h) (fun _ => rfl) rfl (plainFor_of_name lm_pn11) lm_k_tb11 lm_k_pf11 lm_c8
theorem lm_g9 : lm_goodY lm_W0 lm_cl lm_dfs lm_vts lm_P lm_m9 := lm_good_of (i := 9) (z := (584, [(0, 10, 13, 19)])) (t := lm_tb12) (ini := false) (pf := lm_pf12) rfl rfl rfl (fun h => Bool.noConfusion h) (fun h => absurd (congrArg List.isEmpty h) Bool.false_ne_true) rfl (plainFor_of_name lm_pn12) lm_k_tb12 lm_k_pf12 lm_c9
theorem lm_g10 : lm_goodY lm_W0 lm_cl lm_dfs lm_vts lm_P lm_m10 := lm_good_of (i := 10) (z := (2077, [])) (t := lm_tb11) (ini := false) (pf := lm_pf11) rfl rfl rfl (fun h => Bool.noConfusion h) (fun _ => rfl) rfl (plainFor_of_name lm_pn11) lm_k_tb11 lm_k_pf11 lm_c10
theorem lm_g11 : lm_goodY lm_W0 lm_cl lm_dfs lm_vts lm_P lm_m11 := lm_good_of (i := 11) (z := (856, [(0, 12, 15, 19), (0, 12, 19, 13)])) (t := lm_tb12) (ini := false) (pf := lm_pf12) rfl rfl rfl (fun h => Bool.noConfusion h) (fun h => absurd (congrArg List.isEmpty h) Bool.false_ne_true) rfl (plainFor_of_name lm_pn12) lm_k_tb12 lm_k_pf12 lm_c11
theorem lm_g12 : lm_goodY lm_W0 lm_cl lm_dfs lm_vts lm_P lm_m12 := lm_good_of (i := 12) (z := (2081, [])) (t := lm_tb11) (ini := false) (pf := lm_pf11) rfl rfl rfl (fun h => Bool.noConfusion h) (fun _ => rfl) rfl (plainFor_of_name lm_pn11) lm_k_tb11 lm_k_pf11 lm_c12
theorem lm_g13 : lm_goodY lm_W0 lm_cl lm_dfs lm_vts lm_P lm_m13 := lm_good_of (i := 13) (z := (867, [(0, 9, 12, 19)])) (t := lm_tb12) (ini := false) (pf := lm_pf12) rfl rfl rfl (fun h => Bool.noConfusion h) (fun h => absurd (congrArg List.isEmpty h) Bool.false_ne_true) rfl (plainFor_of_name lm_pn12) lm_k_tb12 lm_k_pf12 lm_c13
theorem lm_g14 : lm_goodY lm_W0 lm_cl lm_dfs lm_vts lm_P lm_m14 := lm_good_of (i := 14) (z := (2085, [])) (t := lm_tb11) (ini := false) (pf := lm_pf11) rfl rfl rfl (fun h => Bool.noConfusion h) (fun _ => rfl) rfl (plainFor_of_name lm_pn11) lm_k_tb11 lm_k_pf11 lm_c14
theorem lm_g15 : lm_goodY lm_W0 lm_cl lm_dfs lm_vts lm_P lm_m15 := lm_good_of (i := 15) (z := (874, [(0, 9, 12, 19), (0, 9, 16, 13)])) (t := lm_tb12) (ini := false) (pf := lm_pf12) rfl rfl rfl (fun h => Bool.noConfusion h) (fun h => absurd (congrArg List.isEmpty h) Bool.false_ne_true) rfl (plainFor_of_name lm_pn12) lm_k_tb12 lm_k_pf12 lm_c15
theorem lm_g16 : lm_goodY lm_W0 lm_cl lm_dfs lm_vts lm_P lm_m16 := lm_good_of (i := 16) (z := (2089, [])) (t := lm_tb11) (ini := false) (pf := lm_pf11) rfl rfl rfl (fun h => Bool.noConfusion h) (fun _ => rfl) rfl (plainFor_of_name lm_pn11) lm_k_tb11 lm_k_pf11 lm_c16
theorem lm_g17 : lm_goodY lm_W0 lm_cl lm_dfs lm_vts lm_P lm_m17 := lm_good_of (i := 17) (z := (881, [(0, 17, 20, 19)])) (t := lm_tb12) (ini := false) (pf := lm_pf12) rfl rfl rfl (fun h => Bool.noConfusion h) (fun h => absurd (congrArg List.isEmpty h) Bool.false_ne_true) rfl (plainFor_of_name lm_pn12) lm_k_tb12 lm_k_pf12 lm_c17
theorem lm_g18 : lm_goodY lm_W0 lm_cl lm_dfs lm_vts lm_P lm_m18 := lm_good_of (i := 18) (z := (2093, [])) (t := lm_tb11) (ini := false) (pf := lm_pf11) rfl rfl rfl (fun h => Bool.noConfusion h) (fun _ => rfl) rfl (plainFor_of_name lm_pn11) lm_k_tb11 lm_k_pf11 lm_c18
theorem lm_g19 : lm_goodY lm_W0 lm_cl lm_dfs lm_vts lm_P lm_m19 := lm_good_of (i := 19) (z := (891, [(0, 10, 13, 19)])) (t := lm_tb12) (ini := false) (pf := lm_pf12) rfl rfl rfl (fun h => Bool.noConfusion h) (fun h => absurd (congrArg List.isEmpty h) Bool.false_ne_true) rfl (plainFor_of_name lm_pn12) lm_k_tb12 lm_k_pf12 lm_c19
theorem lm_g20 : lm_goodY lm_W0 lm_cl lm_dfs lm_vts lm_P lm_m20 := lm_good_of (i := 20) (z := (2097, [])) (t := lm_tb11) (ini := false) (pf := lm_pf11) rfl rfl rfl (fun h => Bool.noConfusion h) (fun _ => rfl) rfl (plainFor_of_name lm_pn11) lm_k_tb11 lm_k_pf11 lm_c20
theorem lm_g21 : lm_goodY lm_W0 lm_cl lm_dfs lm_vts lm_P lm_m21 := lm_good_of (i := 21) (z := (1098, [(0, 9, 12, 19), (0, 9, 15, 49), (0, 9, 18, 51)])) (t := lm_tb12) (ini := false) (pf := lm_pf12) rfl rfl rfl (fun h => Bool.noConfusion h) (fun h => absurd (congrArg List.isEmpty h) Bool.false_ne_true) rfl (plainFor_of_name lm_pn12) lm_k_tb12 lm_k_pf12 lm_c21
theorem lm_g22 : lm_goodY lm_W0 lm_cl lm_dfs lm_vts lm_P lm_m22 := lm_good_of (i := 22) (z := (2128, [])) (t := lm_tb11) (ini := false) (pf := lm_pf11) rfl rfl rfl (fun h => Bool.noConfusion h) (fun _ => rfl) rfl (plainFor_of_name lm_pn11) lm_k_tb11 lm_k_pf11 lm_c22
theorem lm_g23 : lm_goodY lm_W0 lm_cl lm_dfs lm_vts lm_P lm_m23 := lm_good_of (i := 23) (z := (1205, [(0, 9, 12, 19), (0, 9, 15, 49), (0, 9, 18, 56), (0, 9, 21, 51)])) (t := lm_tb12) (ini := false) (pf := lm_pf12) rfl rfl rfl (fun h => Bool.noConfusion h) (fun h => absurd (congrArg List.isEmpty h) Bool.false_ne_true) rfl (plainFor_of_name lm_pn12) lm_k_tb12 lm_k_pf12 lm_c23
theorem lm_g24 : lm_goodY lm_W0 lm_cl lm_dfs lm_vts lm_P lm_m24 := lm_good_of (i := 24) (z := (2163, [])) (t := lm_tb11) (ini := false) (pf := lm_pf11) rfl rfl rfl (fun h => Bool.noConfusion h) (fun _ => rfl) rfl (plainFor_of_name lm_pn11) lm_k_tb11 lm_k_pf11 lm_c24
theorem lm_g25 : lm_goodY lm_W0 lm_cl lm_dfs lm_vts lm_P lm_m25 := lm_good_of (i := 25) (z := (1269, [(0, 9, 12, 19), (0, 9, 15, 56), (0, 9, 18, 51)])) (t := lm_tb12) (ini := false) (pf := lm_pf12) rfl rfl rfl (fun h => Bool.noConfusion h) (fun h => absurd (congrArg List.isEmpty h) Bool.false_ne_true) rfl (plainFor_of_name lm_pn12) lm_k_tb12 lm_k_pf12 lm_c25
theorem lm_g26 : lm_goodY lm_W0 lm_cl lm_dfs lm_vts lm_P lm_m26 := lm_good_of (i := 26) (z := (2191, [])) (t := lm_tb11) (ini := false) (pf := lm_pf11) rfl rfl rfl (fun h => Bool.noConfusion h) (fun _ => rfl) rfl (plainFor_of_name lm_pn11) lm_k_tb11 lm_k_pf11 lm_c26
theorem lm_g27 : lm_goodY lm_W0 lm_cl lm_dfs lm_vts lm_P lm_m27 := lm_good_of (i := 27) (z := (1293, [(0, 9, 12, 19), (0, 9, 15, 49), (0, 9, 18, 51)])) (t := lm_tb12) (ini := false) (pf := lm_pf12) rfl rfl rfl (fun h => Bool.noConfusion h) (fun h => absurd (congrArg List.isEmpty h) Bool.false_ne_true) rfl (plainFor_of_name lm_pn12) lm_k_tb12 lm_k_pf12 lm_c27
theorem lm_g28 : lm_goodY lm_W0 lm_cl lm_dfs lm_vts lm_P lm_m28 := lm_good_of (i := 28) (z := (2198, [])) (t := lm_tb11) (ini := false) (pf := lm_pf11) rfl rfl rfl (fun h => Bool.noConfusion h) (fun _ => rfl) rfl (plainFor_of_name lm_pn11) lm_k_tb11 lm_k_pf11 lm_c28
theorem lm_g29 : lm_goodY lm_W0 lm_cl lm_dfs lm_vts lm_P lm_m29 := lm_good_of (i := 29) (z := (1385, [(0, 10, 13, 19), (0, 10, 17, 49), (0, 10, 21, 56), (0, 10, 25, 51)])) (t := lm_tb12) (ini := false) (pf := lm_pf12) rfl rfl rfl (fun h => Bool.noConfusion h) (fun h => absurd (congrArg List.isEmpty h) Bool.false_ne_true) rfl (plainFor_of_name lm_pn12) lm_k_tb12 lm_k_pf12 lm_c29
theorem lm_g30 : lm_goodY lm_W0 lm_cl lm_dfs lm_vts lm_P lm_m30 := lm_good_of (i := 30) (z := (2248, [])) (t := lm_tb11) (ini := false) (pf := lm_pf11) rfl rfl rfl (fun h => Bool.noConfusion h) (fun _ => rfl) rfl (plainFor_of_name lm_pn11) lm_k_tb11 lm_k_pf11 lm_c30
theorem lm_g31 : lm_goodY lm_W0 lm_cl lm_dfs lm_vts lm_P lm_m31 := lm_good_of (i := 31) (z := (1522, [(0, 17, 20, 19), (0, 17, 24, 49), (0, 17, 28, 56), (0, 17, 32, 51)])) (t := lm_tb12) (ini := false) (pf := lm_pf12) rfl rfl rfl (fun h => Bool.noConfusion h) (fun h => absurd (congrArg List.isEmpty h) Bool.false_ne_true) rfl (plainFor_of_name lm_pn12) lm_k_tb12 lm_k_pf12 lm_c31
theorem lm_g32 : lm_goodY lm_W0 lm_cl lm_dfs lm_vts lm_P lm_m32 := lm_good_of (i := 32) (z := (2301, [])) (t := lm_tb11) (ini := false) (pf := lm_pf11) rfl rfl rfl (fun h => Bool.noConfusion h) (fun _ => rfl) rfl (plainFor_of_name lm_pn11) lm_k_tb11 lm_k_pf11 lm_c32
theorem lm_g33 : lm_goodY lm_W0 lm_cl lm_dfs lm_vts lm_P lm_m33 := lm_good_of (i := 33) (z := (1551, [(0, 9, 12, 19), (0, 9, 15, 49)])) (t := lm_tb12) (ini := false) (pf := lm_pf12) rfl rfl rfl (fun h => Bool.noConfusion h) (fun h => absurd (congrArg List.isEmpty h) Bool.false_ne_true) rfl (plainFor_of_name lm_pn12) lm_k_tb12 lm_k_pf12 lm_c33
theorem lm_g34 : lm_goodY lm_W0 lm_cl lm_dfs lm_vts lm_P lm_m34 := lm_good_of (i := 34) (z := (2310, [])) (t := lm_tb11) (ini := false) (pf := lm_pf11) rfl rfl rfl (fun h => Bool.noConfusion h) (fun _ => rfl) rfl (plainFor_of_name lm_pn11) lm_k_tb11 lm_k_pf11 lm_c34
theorem lm_g35 : lm_goodY lm_W0 lm_cl lm_dfs lm_vts lm_P lm_m35 := lm_good_of (i := 35) (z := (1626, [(0, 10, 13, 19), (0, 10, 17, 49), (0, 10, 21, 56)])) (t := lm_tb12) (ini := false) (pf := lm_pf12) rfl rfl rfl (fun h => Bool.noConfusion h) (fun h => absurd (congrArg List.isEmpty h) Bool.false_ne_true) rfl (plainFor_of_name lm_pn12) lm_k_tb12 lm_k_pf12 lm_c35
theorem lm_g36 : lm_goodY lm_W0 lm_cl lm_dfs lm_vts lm_P lm_m36 := lm_good_of (i := 36) (z := (2346, [])) (t := lm_tb11) (ini := false) (pf := lm_pf11) rfl rfl rfl (fun h => Bool.noConfusion h) (fun _ => rfl) rfl (plainFor_of_name lm_pn11) lm_k_tb11 lm_k_pf11 lm_c36
theorem lm_g37 : lm_goodY lm_W0 lm_cl lm_dfs lm_vts lm_P lm_m37 := lm_good_of (i := 37) (z := (1711, [(0, 17, 20, 19), (0, 17, 24, 49), (0, 17, 28, 56)])) (t := lm_tb12) (ini := false) (pf := lm_pf12) rfl rfl rfl (fun h => Bool.noConfusion h) (fun h => absurd (congrArg List.isEmpty h) Bool.false_ne_true) rfl (plainFor_of_name lm_pn12) lm_k_tb12 lm_k_pf12 lm_c37
theorem lm_g38 : lm_goodY lm_W0 lm_cl lm_dfs lm_vts lm_P lm_m38 := lm_good_of (i := 38) (z := (2398, [])) (t := lm_tb11) (ini := false) (pf := lm_pf11) rfl rfl rfl (fun h => Bool.noConfusion h) (fun _ => rfl) rfl (plainFor_of_name lm_pn11) lm_k_tb11 lm_k_pf11 lm_c38
theorem lm_g39 : lm_goodY lm_W0 lm_cl lm_dfs lm_vts lm_P lm_m39 := lm_good_of (i := 39) (z := (1724, [(0, 16, 19, 19), (0, 16, 23, 56)])) (t := lm_tb12) (ini := false) (pf := lm_pf12) rfl rfl rfl (fun h => Bool.noConfusion h) (fun h => absurd (congrArg List.isEmpty h) Bool.false_ne_true) rfl (plainFor_of_name lm_pn12) lm_k_tb12 lm_k_pf12 lm_c39
theorem lm_g40 : lm_goodY lm_W0 lm_cl lm_dfs lm_vts lm_P lm_m40 := lm_good_of (i := 40) (z := (2402, [])) (t := lm_tb11) (ini := false) (pf := lm_pf11) rfl rfl rfl (fun h => Bool.noConfusion h) (fun _ => rfl) rfl (plainFor_of_name lm_pn11) lm_k_tb11 lm_k_pf11 lm_c40
theorem lm_g41 : lm_goodY lm_W0 lm_cl lm_dfs lm_vts lm_P lm_m41 := lm_good_of (i := 41) (z := (48, [])) (t := lm_tb1) (ini := true) (pf := lm_pf1) rfl rfl rfl (fun _ => rfl) (fun _ => rfl) rfl (plainFor_of_name lm_pn1) lm_k_tb1 lm_k_pf1 lm_c41
theorem lm_g42 : lm_goodY lm_W0 lm_cl lm_dfs lm_vts lm_P lm_m42 := lm_good_of (i := 42) (z := (73, [])) (t := lm_tb2) (ini := true) (pf := lm_pf2) rfl rfl rfl (fun _ => rfl) (fun _ => rfl) rfl (plainFor_of_name lm_pn2) lm_k_tb2 lm_k_pf2 lm_c42
theorem lm_g43 : lm_goodY lm_W0 lm_cl lm_dfs lm_vts lm_P lm_m43 := lm_good_of (i := 43) (z := (204, [])) (t := lm_tb4) (ini := true) (pf := lm_pf4) rfl rfl rfl (fun _ => rfl) (fun _ => rfl) rfl (plainFor_of_name lm_pn4) lm_k_tb4 lm_k_pf4 lm_c43
theorem lm_g44 : lm_goodY lm_W0 lm_cl lm_dfs lm_vts lm_P lm_m44 := lm_good_of (i := 44) (z := (229, [])) (t := lm_tb8) (ini := true) (pf := lm_pf8) rfl rfl rfl (fun _ => rfl) (fun _ => rfl) rfl (plainFor_of_name lm_pn8) lm_k_tb8 lm_k_pf8 lm_c44
theorem lm_g45 : lm_goodY lm_W0 lm_cl lm_dfs lm_vts lm_P lm_m45 := lm_good_of (i := 45) (z := (299, [])) (t := lm_tb9) (ini := true) (pf := lm_pf9) rfl rfl rfl (fun _ => rfl) (fun _ => rfl) rfl (plainFor_of_name lm_pn9) lm_k_tb9 lm_k_pf9 lm_c45
theorem lm_g46 : lm_goodY lm_W0 lm_cl lm_dfs lm_vts lm_P lm_m46 := lm_good_of (i := 46) (z := (370, [])) (t := lm_tb10) (ini := true) (pf := lm_pf10) rfl rfl rfl (fun _ => rfl) (fun _ => rfl) rfl (plainFor_of_name lm_pn10) lm_k_tb10 lm_k_pf10 lm_c46
theorem lm_g47 : lm_goodY lm_W0 lm_cl lm_dfs lm_vts lm_P lm_m47 := lm_good_of (i := 47) (z := (1748, [])) (t := lm_tb11) (ini := false) (pf := lm_pf11) rfl rfl rfl (fun h => Bool.noConfusion h) (fun _ => rfl) rfl (plainFor_of_name lm_pn11) lm_k_tb11 lm_k_pf11 lm_c47
theorem lm_g48 : lm_goodY lm_W0 lm_cl lm_dfs lm_vts lm_P lm_m48 := lm_good_of (i := 48) (z := (465, [])) (t := lm_tb0) (ini := false) (pf := lm_pf0) rfl rfl rfl (fun h => Bool.noConfusion h) (fun _ => rfl) rfl (plainFor_of_name lm_pn0) lm_k_tb0 lm_k_pf0 lm_c48
theorem lm_g49 : lm_goodY lm_W0 lm_cl lm_dfs lm_vts lm_P lm_m49 := lm_good_of (i := 49) (z := (2058, [])) (t := lm_tb11) (ini := false) (pf := lm_pf11) rfl rfl rfl (fun h => Bool.noConfusion h) (fun _ => rfl) rfl (plainFor_of_name lm_pn11) lm_k_tb11 lm_k_pf11 lm_c49
theorem lm_g50 : lm_goodY lm_W0 lm_cl lm_dfs lm_vts lm_P lm_m50 := lm_good_of (i := 50) (z := (2062, [])) (t := lm_tb11) (ini := false) (pf := lm_pf11) rfl rfl rfl (fun h => Bool.noConfusion h) (fun _ => rfl) rfl (plainFor_of_name lm_pn11) lm_k_tb11 lm_k_pf11 lm_c50
theorem lm_g51 : lm_goodY lm_W0 lm_cl lm_dfs lm_vts lm_P lm_m51 := lm_good_of (i := 51) (z := (547, [])) (t := lm_tb0) (ini := false) (pf := lm_pf0) rfl rfl rfl (fun h => Bool.noConfusion h) (fun _ => rfl) rfl (plainFor_of_name lm_pn0) lm_k_tb0 lm_k_pf0 lm_c51
theorem lm_g52 : lm_goodY lm_W0 lm_cl lm_dfs lm_vts lm_P lm_m52 := lm_good_of (i := 52) (z := (2069, [])) (t := lm_tb11) (ini := false) (pf := lm_pf11) rfl rfl rfl (fun h => Bool.noConfusion h) (fun _ => rfl) rfl (plainFor_of_name lm_pn11) lm_k_tb11 lm_k_pf11 lm_c52
theorem lm_g53 : lm_goodY lm_W0 lm_cl lm_dfs lm_vts lm_P lm_m53 := lm_good_of (i := 53) (z := (581, [])) (t := lm_tb0) (ini := false) (pf := lm_pf0) rfl rfl rfl (fun h => Bool.noConfusion h) (fun _ => rfl) rfl (plainFor_of_name lm_pn0) lm_k_tb0 lm_k_pf0 lm_c53
theorem lm_g54 : lm_goodY lm_W0 lm_cl lm_dfs lm_vts lm_P lm_m54 := lm_good_of (i := 54) (z := (588, [])) (t := lm_tb0) (ini := false) (pf := lm_pf0) rfl rfl rfl (fun h => Bool.noConfusion h) (fun _ => rfl) rfl (plainFor_of_name lm_pn0) lm_k_tb0 lm_k_pf0 lm_c54
theorem lm_g55 : lm_goodY lm_W0 lm_cl lm_dfs lm_vts lm_P lm_m55 := lm_good_of (i := 55) (z := (860, [])) (t := lm_tb0) (ini := false) (pf := lm_pf0) rfl rfl rfl (fun h => Bool.noConfusion h) (fun _ => rfl) rfl (plainFor_of_name lm_pn0) lm_k_tb0 lm_k_pf0 lm_c55
theorem lm_g56 : lm_goodY lm_W0 lm_cl lm_dfs lm_vts lm_P lm_m56 := lm_good_of (i := 56) (z := (871, [])) (t := lm_tb0) (ini := false) (pf := lm_pf0) rfl rfl rfl (fun h => Bool.noConfusion h) (fun _ => rfl) rfl (plainFor_of_name lm_pn0) lm_k_tb0 lm_k_pf0 lm_c56
theorem lm_g57 : lm_goodY lm_W0 lm_cl lm_dfs lm_vts lm_P lm_m57 := lm_good_of (i := 57) (z := (878, [])) (t := lm_tb0) (ini := false) (pf := lm_pf0) rfl rfl rfl (fun h => Bool.noConfusion h) (fun _ => rfl) rfl (plainFor_of_name lm_pn0) lm_k_tb0 lm_k_pf0 lm_c57
theorem lm_g58 : lm_goodY lm_W0 lm_cl lm_dfs lm_vts lm_P lm_m58 := lm_good_of (i := 58) (z := (885, [])) (t := lm_tb0) (ini := false) (pf := lm_pf0) rfl rfl rfl (fun h => Bool.noConfusion h) (fun _ => rfl) rfl (plainFor_of_name lm_pn0) lm_k_tb0 lm_k_pf0 lm_c58
theorem lm_g59 : lm_goodY lm_W0 lm_cl lm_dfs lm_vts lm_P lm_m59 := lm_good_of (i := 59) (z := (895, [])) (t := lm_tb0) (ini := false) (pf := lm_pf0) rfl rfl rfl (fun h => Bool.noConfusion h) (fun _ => rfl) rfl (plainFor_of_name lm_pn0) lm_k_tb0 lm_k_pf0 lm_c59
theorem lm_g60 : lm_goodY lm_W0 lm_cl lm_dfs lm_vts lm_P lm_m60 := lm_good_of (i := 60) (z := (1774, [])) (t := lm_tb11) (ini := false) (pf := lm_pf11) rfl rfl rfl (fun h => Bool.noConfusion h) (fun _ => rfl) rfl (plainFor_of_name lm_pn11) lm_k_tb11 lm_k_pf11 lm_c60
theorem lm_g61 : lm_goodY lm_W0 lm_cl lm_dfs lm_vts lm_P lm_m61 := lm_good_of (i := 61) (z := (1771, [])) (t := lm_tb11) (ini := false) (pf := lm_pf11) rfl rfl rfl (fun h => Bool.noConfusion h) (fun _ => rfl) rfl (plainFor_of_name lm_pn11) lm_k_tb11 lm_k_pf11 lm_c61
theorem lm_g62 : lm_goodY lm_W0 lm_cl lm_dfs lm_vts lm_P lm_m62 := lm_good_of (i := 62) (z := (2101, [])) (t := lm_tb11) (ini := false) (pf := lm_pf11) rfl rfl rfl (fun h => Bool.noConfusion h) (fun _ => rfl) rfl (plainFor_of_name lm_pn11) lm_k_tb11 lm_k_pf11 lm_c62
theorem lm_g63 : lm_goodY lm_W0 lm_cl lm_dfs lm_vts lm_P lm_m63 := lm_good_of (i := 63) (z := (2105, [])) (t := lm_tb11) (ini := false) (pf := lm_pf11) rfl rfl rfl (fun h => Bool.noConfusion h) (fun _ => rfl) rfl (plainFor_of_name lm_pn11) lm_k_tb11 lm_k_pf11 lm_c63
theorem lm_g64 : lm_goodY lm_W0 lm_cl lm_dfs lm_vts lm_P lm_m64 := lm_good_of (i := 64) (z := (2113, [])) (t := lm_tb11) (ini := false) (pf := lm_pf11) rfl rfl rfl (fun h => Bool.noConfusion h) (fun _ => rfl) rfl (plainFor_of_name lm_pn11) lm_k_tb11 lm_k_pf11 lm_c64
theorem lm_g65 : lm_goodY lm_W0 lm_cl lm_dfs lm_vts lm_P lm_m65 := lm_good_of (i := 65) (z := (2120, [])) (t := lm_tb11) (ini := false) (pf := lm_pf11) rfl rfl rfl (fun h => Bool.noConfusion h) (fun _ => rfl) rfl (plainFor_of_name lm_pn11) lm_k_tb11 lm_k_pf11 lm_c65
theorem lm_g66 : lm_goodY lm_W0 lm_cl lm_dfs lm_vts lm_P lm_m66 := lm_good_of (i := 66) (z := (2124, [])) (t := lm_tb11) (ini := false) (pf := lm_pf11) rfl rfl rfl (fun h => Bool.noConfusion h) (fun _ => rfl) rfl (plainFor_of_name lm_pn11) lm_k_tb11 lm_k_pf11 lm_c66
theorem lm_g67 : lm_goodY lm_W0 lm_cl lm_dfs lm_vts lm_P lm_m67 := lm_good_of (i := 67) (z := (1104, [])) (t := lm_tb0) (ini := false) (pf := lm_pf0) rfl rfl rfl (fun h => Bool.noConfusion h) (fun _ => rfl) rfl (plainFor_of_name lm_pn0) lm_k_tb0 lm_k_pf0 lm_c67
theorem lm_g68 : lm_goodY lm_W0 lm_cl lm_dfs lm_vts lm_P lm_m68 := lm_good_of (i := 68) (z := (2132, [])) (t := lm_tb11) (ini := false) (pf := lm_pf11) rfl rfl rfl (fun h => Bool.noConfusion h) (fun _ => rfl) rfl (plainFor_of_name lm_pn11) lm_k_tb11 lm_k_pf11 lm_c68
theorem lm_g69 : lm_goodY lm_W0 lm_cl lm_dfs lm_vts lm_P lm_m69 := lm_good_of (i := 69) (z := (1783, [])) (t := lm_tb11) (ini := false) (pf := lm_pf11) rfl rfl rfl (fun h => Bool.noConfusion h) (fun _ => rfl) rfl (plainFor_of_name lm_pn11) lm_k_tb11 lm_k_pf11 lm_c69
theorem lm_g70 : lm_goodY lm_W0 lm_cl lm_dfs lm_vts lm_P lm_m70 := lm_good_of (i := 70) (z := (2136, [])) (t := lm_tb11) (ini := false) (pf := lm_pf11) rfl rfl rfl (fun h => Bool.noConfusion h) (fun _ => rfl) rfl (plainFor_of_name lm_pn11) lm_k_tb11 lm_k_pf11 lm_c70
theorem lm_g71 : lm_goodY lm_W0 lm_cl lm_dfs lm_vts lm_P lm_m71 := lm_good_of (i := 71) (z := (2143, [])) (t := lm_tb11) (ini := false) (pf := lm_pf11) rfl rfl rfl (fun h => Bool.noConfusion h) (fun _ => rfl) rfl (plainFor_of_name lm_pn11) lm_k_tb11 lm_k_pf11 lm_c71
theorem lm_g72 : lm_goodY lm_W0 lm_cl lm_dfs lm_vts lm_P lm_m72 := lm_good_of (i := 72) (z := (2151, [])) (t := lm_tb11) (ini := false) (pf := lm_pf11) rfl rfl rfl (fun h => Bool.noConfusion h) (fun _ => rfl) rfl (plainFor_of_name lm_pn11) lm_k_tb11 lm_k_pf11 lm_c72
theorem lm_g73 : lm_goodY lm_W0 lm_cl lm_dfs lm_vts lm_P lm_m73 := lm_good_of (i := 73) (z := (2155, [])) (t := lm_tb11) (ini := false) (pf := lm_pf11) rfl rfl rfl (fun h => Bool.noConfusion h) (fun _ => rfl) rfl (plainFor_of_name lm_pn11) lm_k_tb11 lm_k_pf11 lm_c73
theorem lm_g74 : lm_goodY lm_W0 lm_cl lm_dfs lm_vts lm_P lm_m74 := lm_good_of (i := 74) (z := (2159, [])) (t := lm_tb11) (ini := false) (pf := lm_pf11) rfl rfl rfl (fun h => Bool.noConfusion h) (fun _ => rfl) rfl (plainFor_of_name lm_pn11) lm_k_tb11 lm_k_pf11 lm_c74
theorem lm_g75 : lm_goodY lm_W0 lm_cl lm_dfs lm_vts lm_P lm_m75 := lm_good_of (i := 75) (z := (2116, [])) (t := lm_tb11) (ini := false) (pf := lm_pf11) rfl rfl rfl (fun h => Bool.noConfusion h) (fun _ => rfl) rfl (plainFor_of_name lm_pn11) lm_k_tb11 lm_k_pf11 lm_c75
theorem lm_g76 : lm_goodY lm_W0 lm_cl lm_dfs lm_vts lm_P lm_m76 := lm_good_of (i := 76) (z := (1210, [])) (t := lm_tb0) (ini := false) (pf := lm_pf0) rfl rfl rfl (fun h => Bool.noConfusion h) (fun _ => rfl) rfl (plainFor_of_name lm_pn0) lm_k_tb0 lm_k_pf0 lm_c76
theorem lm_g77 : lm_goodY lm_W0 lm_cl lm_dfs lm_vts lm_P lm_m77 := lm_good_of (i := 77) (z := (2167, [])) (t := lm_tb11) (ini := false) (pf := lm_pf11) rfl rfl rfl (fun h => Bool.noConfusion h) (fun _ => rfl) rfl (plainFor_of_name lm_pn11) lm_k_tb11 lm_k_pf11 lm_c77
theorem lm_g78 : lm_goodY lm_W0 lm_cl lm_dfs lm_vts lm_P lm_m78 := lm_good_of (i := 78) (z := (2171, [])) (t := lm_tb11) (ini := false) (pf := lm_pf11) rfl rfl rfl (fun h => Bool.noConfusion h) (fun _ => rfl) rfl (plainFor_of_name lm_pn11) lm_k_tb11 lm_k_pf11 lm_c78
theorem lm_g79 : lm_goodY lm_W0 lm_cl lm_dfs lm_vts lm_P lm_m79 := lm_good_of (i := 79) (z := (1273, [])) (t := lm_tb0) (ini := false) (pf := lm_pf0) rfl rfl rfl (fun h => Bool.noConfusion h) (fun _ => rfl) rfl (plainFor_of_name lm_pn0) lm_k_tb0 lm_k_pf0 lm_c79
theorem lm_g80 : lm_goodY lm_W0 lm_cl lm_dfs lm_vts lm_P lm_m80 := lm_good_of (i := 80) (z := (2194, [])) (t := lm_tb11) (ini := false) (pf := lm_pf11) rfl rfl rfl (fun h => Bool.noConfusion h) (fun _ => rfl) rfl (plainFor_of_name lm_pn11) lm_k_tb11 lm_k_pf11 lm_c80
theorem lm_g81 : lm_goodY lm_W0 lm_cl lm_dfs lm_vts lm_P lm_m81 := lm_good_of (i := 81) (z := (2174, [])) (t := lm_tb11) (ini := false) (pf := lm_pf11) rfl rfl rfl (fun h => Bool.noConfusion h) (fun _ => rfl) rfl (plainFor_of_name lm_pn11) lm_k_tb11 lm_k_pf11 lm_c81
theorem lm_g82 : lm_goodY lm_W0 lm_cl lm_dfs lm_vts lm_P lm_m82 := lm_good_of (i := 82) (z := (2187, [])) (t := lm_tb11) (ini := false) (pf := lm_pf11) rfl rfl rfl (fun h => Bool.noConfusion h) (fun _ => rfl) rfl (plainFor_of_name lm_pn11) lm_k_tb11 lm_k_pf11 lm_c82
theorem lm_g83 : lm_goodY lm_W0 lm_cl lm_dfs lm_vts lm_P lm_m83 := lm_good_of (i := 83) (z := (2178, [])) (t := lm_tb11) (ini := false) (pf := lm_pf11) rfl rfl rfl (fun h => Bool.noConfusion h) (fun _ => rfl) rfl (plainFor_of_name lm_pn11) lm_k_tb11 lm_k_pf11 lm_c83
theorem lm_g84 : lm_goodY lm_W0 lm_cl lm_dfs lm_vts lm_P lm_m84 := lm_good_of (i := 84) (z := (2182, [])) (t := lm_tb11) (ini := false) (pf := lm_pf11) rfl rfl rfl (fun h => Bool.noConfusion h) (fun _ => rfl) rfl (plainFor_of_name lm_pn11) lm_k_tb11 lm_k_pf11 lm_c84
theorem lm_g85 : lm_goodY lm_W0 lm_cl lm_dfs lm_vts lm_P lm_m85 := lm_good_of (i := 85) (z := (1297, [])) (t := lm_tb0) (ini := false) (pf := lm_pf0) rfl rfl rfl (fun h => Bool.noConfusion h) (fun _ => rfl) rfl (plainFor_of_name lm_pn0) lm_k_tb0 lm_k_pf0 lm_c85
theorem lm_g86 : lm_goodY lm_W0 lm_cl lm_dfs lm_vts lm_P lm_m86 := lm_good_of (i := 86) (z := (2202, [])) (t := lm_tb11) (ini := false) (pf := lm_pf11) rfl rfl rfl (fun h => Bool.noConfusion h) (fun _ => rfl) rfl (plainFor_of_name lm_pn11) lm_k_tb11 lm_k_pf11 lm_c86
theorem lm_g87 : lm_goodY lm_W0 lm_cl lm_dfs lm_vts lm_P lm_m87 := lm_good_of (i := 87) (z := (2212, [])) (t := lm_tb11) (ini := false) (pf := lm_pf11) rfl rfl rfl (fun h => Bool.noConfusion h) (fun _ => rfl) rfl (plainFor_of_name lm_pn11) lm_k_tb11 lm_k_pf11 lm_c87
theorem lm_g88 : lm_goodY lm_W0 lm_cl lm_dfs lm_vts lm_P lm_m88 := lm_good_of (i := 88) (z := (2220, [])) (t := lm_tb11) (ini := false) (pf := lm_pf11) rfl rfl rfl (fun h => Bool.noConfusion h) (fun _ => rfl) rfl (plainFor_of_name lm_pn11) lm_k_tb11 lm_k_pf11 lm_c88
theorem lm_g89 : lm_goodY lm_W0 lm_cl lm_dfs lm_vts lm_P lm_m89 := lm_good_of (i := 89) (z := (2223, [])) (t := lm_tb11) (ini := false) (pf := lm_pf11) rfl rfl rfl (fun h => Bool.noConfusion h) (fun _ => rfl) rfl (plainFor_of_name lm_pn11) lm_k_tb11 lm_k_pf11 lm_c89
theorem lm_g90 : lm_goodY lm_W0 lm_cl lm_dfs lm_vts lm_P lm_m90 := lm_good_of (i := 90) (z := (2228, [])) (t := lm_tb11) (ini := false) (pf := lm_pf11) rfl rfl rfl (fun h => Bool.noConfusion h) (fun _ => rfl) rfl (plainFor_of_name lm_pn11) lm_k_tb11 lm_k_pf11 lm_c90
theorem lm_g91 : lm_goodY lm_W0 lm_cl lm_dfs lm_vts lm_P lm_m91 := lm_good_of (i := 91) (z := (2232, [])) (t := lm_tb11) (ini := false) (pf := lm_pf11) rfl rfl rfl (fun h => Bool.noConfusion h) (fun _ => rfl) rfl (plainFor_of_name lm_pn11) lm_k_tb11 lm_k_pf11 lm_c91
theorem lm_g92 : lm_goodY lm_W0 lm_cl lm_dfs lm_vts lm_P lm_m92 := lm_good_of (i := 92) (z := (2235, [])) (t := lm_tb11) (ini := false) (pf := lm_pf11) rfl rfl rfl (fun h => Bool.noConfusion h) (fun _ => rfl) rfl (plainFor_of_name lm_pn11) lm_k_tb11 lm_k_pf11 lm_c92
theorem lm_g93 : lm_goodY lm_W0 lm_cl lm_dfs lm_vts lm_P lm_m93 := lm_good_of (i := 93) (z := (2239, [])) (t := lm_tb11) (ini := false) (pf := lm_pf11) rfl rfl rfl (fun h => Bool.noConfusion h) (fun _ => rfl) rfl (plainFor_of_name lm_pn11) lm_k_tb11 lm_k_pf11 lm_c93
theorem lm_g94 : lm_goodY lm_W0 lm_cl lm_dfs lm_vts lm_P lm_m94 := lm_good_of (i := 94) (z := (2244, [])) (t := lm_tb11) (ini := false) (pf := lm_pf11) rfl rfl rfl (fun h => Bool.noConfusion h) (fun _ => rfl) rfl (plainFor_of_name lm_pn11) lm_k_tb11 lm_k_pf11 lm_c94
theorem lm_g95 : lm_goodY lm_W0 lm_cl lm_dfs lm_vts lm_P lm_m95 := lm_good_of (i := 95) (z := (1389, [])) (t := lm_tb0) (ini := false) (pf := lm_pf0) rfl rfl rfl (fun h => Bool.noConfusion h) (fun _ => rfl) rfl (plainFor_of_name lm_pn0) lm_k_tb0 lm_k_pf0 lm_c95
theorem lm_g96 : lm_goodY lm_W0 lm_cl lm_dfs lm_vts lm_P lm_m96 := lm_good_of (i := 96) (z := (2252, [])) (t := lm_tb11) (ini := false) (pf := lm_pf11) rfl rfl rfl (fun h => Bool.noConfusion h) (fun _ => rfl) rfl (plainFor_of_name lm_pn11) lm_k_tb11 lm_k_pf11 lm_c96
theorem lm_g97 : lm_goodY lm_W0 lm_cl lm_dfs lm_vts lm_P lm_m97 := lm_good_of (i := 97) (z := (2256, [])) (t := lm_tb11) (ini := false) (pf := lm_pf11) rfl rfl rfl (fun h => Bool.noConfusion h) (fun _ => rfl) rfl (plainFor_of_name lm_pn11) lm_k_tb11 lm_k_pf11 lm_c97
theorem lm_g98 : lm_goodY lm_W0 lm_cl lm_dfs lm_vts lm_P lm_m98 := lm_good_of (i := 98) (z := (2268, [])) (t := lm_tb11) (ini := false) (pf := lm_pf11) rfl rfl rfl (fun h => Bool.noConfusion h) (fun _ => rfl) rfl (plainFor_of_name lm_pn11) lm_k_tb11 lm_k_pf11 lm_c98
theorem lm_g99 : lm_goodY lm_W0 lm_cl lm_dfs lm_vts lm_P lm_m99 := lm_good_of (i := 99) (z := (2272, [])) (t := lm_tb11) (ini := false) (pf := lm_pf11) rfl rfl rfl (fun h => Bool.noConfusion h) (fun _ => rfl) rfl (plainFor_of_name lm_pn11) lm_k_tb11 lm_k_pf11 lm_c99
theorem lm_g100 : lm_goodY lm_W0 lm_cl lm_dfs lm_vts lm_P lm_m100 := lm_good_of (i := 100) (z := (1526, [])) (t := lm_tb0) (ini := false) (pf := lm_pf0) rfl rfl rfl (fun h => Bool.noConfusion h) (fun _ => rfl) rfl (plainFor_of_name lm_pn0) lm_k_tb0 lm_k_pf0 lm_c100
theorem lm_g101 : lm_goodY lm_W0 lm_cl lm_dfs lm_vts lm_P lm_m101 := lm_good_of (i := 101) (z := (2305, [])) (t := lm_tb11) (ini := false) (pf := lm_pf11) rfl rfl rfl (fun h => Bool.noConfusion h) (fun _ => rfl) rfl (plainFor_of_name lm_pn11) lm_k_tb11 lm_k_pf11 lm_c101
theorem lm_g102 : lm_goodY lm_W0 lm_cl lm_dfs lm_vts lm_P lm_m102 := lm_good_of (i := 102) (z := (2285, [])) (t := lm_tb11) (ini := false) (pf := lm_pf11) rfl rfl rfl (fun h => Bool.noConfusion h) (fun _ => rfl) rfl (plainFor_of_name lm_pn11) lm_k_tb11 lm_k_pf11 lm_c102
theorem lm_g103 : lm_goodY lm_W0 lm_cl lm_dfs lm_vts lm_P lm_m103 := lm_good_of (i := 103) (z := (2276, [])) (t := lm_tb11) (ini := false) (pf := lm_pf11) rfl rfl rfl (fun h => Bool.noConfusion h) (fun _ => rfl) rfl (plainFor_of_name lm_pn11) lm_k_tb11 lm_k_pf11 lm_c103
theorem lm_g104 : lm_goodY lm_W0 lm_cl lm_dfs lm_vts lm_P lm_m104 := lm_good_of (i := 104) (z := (2297, [])) (t := lm_tb11) (ini := false) (pf := lm_pf11) rfl rfl rfl (fun h => Bool.noConfusion h) (fun _ => rfl) rfl (plainFor_of_name lm_pn11) lm_k_tb11 lm_k_pf11 lm_c104
theorem lm_g105 : lm_goodY lm_W0 lm_cl lm_dfs lm_vts lm_P lm_m105 := lm_good_of (i := 105) (z := (2281, [])) (t := lm_tb11) (ini := false) (pf := lm_pf11) rfl rfl rfl (fun h => Bool.noConfusion h) (fun _ => rfl) rfl (plainFor_of_name lm_pn11) lm_k_tb11 lm_k_pf11 lm_c105
theorem lm_g106 : lm_goodY lm_W0 lm_cl lm_dfs lm_vts lm_P lm_m106 := lm_good_of (i := 106) (z := (1555, [])) (t := lm_tb0) (ini := false) (pf := lm_pf0) rfl rfl rfl (fun h => Bool.noConfusion h) (fun _ => rfl) rfl (plainFor_of_name lm_pn0) lm_k_tb0 lm_k_pf0 lm_c106
theorem lm_g107 : lm_goodY lm_W0 lm_cl lm_dfs lm_vts lm_P lm_m107 := lm_good_of (i := 107) (z := (2314, [])) (t := lm_tb11) (ini := false) (pf := lm_pf11) rfl rfl rfl (fun h => Bool.noConfusion h) (fun _ => rfl) rfl (plainFor_of_name lm_pn11) lm_k_tb11 lm_k_pf11 lm_c107
theorem lm_g108 : lm_goodY lm_W0 lm_cl lm_dfs lm_vts lm_P lm_m108 := lm_good_of (i := 108) (z := (2318, [])) (t := lm_tb11) (ini := false) (pf := lm_pf11) rfl rfl rfl (fun h => Bool.noConfusion h) (fun _ => rfl) rfl (plainFor_of_name lm_pn11) lm_k_tb11 lm_k_pf11 lm_c108
theorem lm_g109 : lm_goodY lm_W0 lm_cl lm_dfs lm_vts lm_P lm_m109 := lm_good_of (i := 109) (z := (2322, [])) (t := lm_tb11) (ini := false) (pf := lm_pf11) rfl rfl rfl (fun h => Bool.noConfusion h) (fun _ => rfl) rfl (plainFor_of_name lm_pn11) lm_k_tb11 lm_k_pf11 lm_c109
theorem lm_g110 : lm_goodY lm_W0 lm_cl lm_dfs lm_vts lm_P lm_m110 := lm_good_of (i := 110) (z := (1630, [])) (t := lm_tb0) (ini := false) (pf := lm_pf0) rfl rfl rfl (fun h => Bool.noConfusion h) (fun _ => rfl) rfl (plainFor_of_name lm_pn0) lm_k_tb0 lm_k_pf0 lm_c110
theorem lm_g111 : lm_goodY lm_W0 lm_cl lm_dfs lm_vts lm_P lm_m111 := lm_good_of (i := 111) (z := (2260, [])) (t := lm_tb11) (ini := false) (pf := lm_pf11) rfl rfl rfl (fun h => Bool.noConfusion h) (fun _ => rfl) rfl (plainFor_of_name lm_pn11) lm_k_tb11 lm_k_pf11 lm_c111
theorem lm_g112 : lm_goodY lm_W0 lm_cl lm_dfs lm_vts lm_P lm_m112 := lm_good_of (i := 112) (z := (2350, [])) (t := lm_tb11) (ini := false) (pf := lm_pf11) rfl rfl rfl (fun h => Bool.noConfusion h) (fun _ => rfl) rfl (plainFor_of_name lm_pn11) lm_k_tb11 lm_k_pf11 lm_c112
theorem lm_g113 : lm_goodY lm_W0 lm_cl lm_dfs lm_vts lm_P lm_m113 := lm_good_of (i := 113) (z := (2264, [])) (t := lm_tb11) (ini := false) (pf := lm_pf11) rfl rfl rfl (fun h => Bool.noConfusion h) (fun _ => rfl) rfl (plainFor_of_name lm_pn11) lm_k_tb11 lm_k_pf11 lm_c113
theorem lm_g114 : lm_goodY lm_W0 lm_cl lm_dfs lm_vts lm_P lm_m114 := lm_good_of (i := 114) (z := (2354, [])) (t := lm_tb11) (ini := false) (pf := lm_pf11) rfl rfl rfl (fun h => Bool.noConfusion h) (fun _ => rfl) rfl (plainFor_of_name lm_pn11) lm_k_tb11 lm_k_pf11 lm_c114
theorem lm_g115 : lm_goodY lm_W0 lm_cl lm_dfs lm_vts lm_P lm_m115 := lm_good_of (i := 115) (z := (2358, [])) (t := lm_tb11) (ini := false) (pf := lm_pf11) rfl rfl rfl (fun h => Bool.noConfusion h) (fun _ => rfl) rfl (plainFor_of_name lm_pn11) lm_k_tb11 lm_k_pf11 lm_c115
theorem lm_g116 : lm_goodY lm_W0 lm_cl lm_dfs lm_vts lm_P lm_m116 := lm_good_of (i := 116) (z := (2362, [])) (t := lm_tb11) (ini := false) (pf := lm_pf11) rfl rfl rfl (fun h => Bool.noConfusion h) (fun _ => rfl) rfl (plainFor_of_name lm_pn11) lm_k_tb11 lm_k_pf11 lm_c116
theorem lm_g117 : lm_goodY lm_W0 lm_cl lm_dfs lm_vts lm_P lm_m117 := lm_good_of (i := 117) (z := (2366, [])) (t := lm_tb11) (ini := false) (pf := lm_pf11) rfl rfl rfl (fun h => Bool.noConfusion h) (fun _ => rfl) rfl (plainFor_of_name lm_pn11) lm_k_tb11 lm_k_pf11 lm_c117
theorem lm_g118 : lm_goodY lm_W0 lm_cl lm_dfs lm_vts lm_P lm_m118 := lm_good_of (i := 118) (z := (2378, [])) (t := lm_tb11) (ini := false) (pf := lm_pf11) rfl rfl rfl (fun h => Bool.noConfusion h) (fun _ => rfl) rfl (plainFor_of_name lm_pn11) lm_k_tb11 lm_k_pf11 lm_c118
theorem lm_g119 : lm_goodY lm_W0 lm_cl lm_dfs lm_vts lm_P lm_m119 := lm_good_of (i := 119) (z := (2386, [])) (t := lm_tb11) (ini := false) (pf := lm_pf11) rfl rfl rfl (fun h => Bool.noConfusion h) (fun _ => rfl) rfl (plainFor_of_name lm_pn11) lm_k_tb11 lm_k_pf11 lm_c119
theorem lm_g120 : lm_goodY lm_W0 lm_cl lm_dfs lm_vts lm_P lm_m120 := lm_good_of (i := 120) (z := (2394, [])) (t := lm_tb11) (ini := false) (pf := lm_pf11) rfl rfl rfl (fun h => Bool.noConfusion h) (fun _ => rfl) rfl (plainFor_of_name lm_pn11) lm_k_tb11 lm_k_pf11 lm_c120
theorem lm_g121 : lm_goodY lm_W0 lm_cl lm_dfs lm_vts lm_P lm_m121 := lm_good_of (i := 121) (z := (1715, [])) (t := lm_tb0) (ini := false) (pf := lm_pf0) rfl rfl rfl (fun h => Bool.noConfusion h) (fun _ => rfl) rfl (plainFor_of_name lm_pn0) lm_k_tb0 lm_k_pf0 lm_c121
theorem lm_g122 : lm_goodY lm_W0 lm_cl lm_dfs lm_vts lm_P lm_m122 := lm_good_of (i := 122) (z := (1728, [])) (t := lm_tb0) (ini := false) (pf := lm_pf0) rfl rfl rfl (fun h => Bool.noConfusion h) (fun _ => rfl) rfl (plainFor_of_name lm_pn0) lm_k_tb0 lm_k_pf0 lm_c122
theorem lm_g123 : lm_goodY lm_W0 lm_cl lm_dfs lm_vts lm_P lm_m123 := lm_good_of (i := 123) (z := (79, [])) (t := lm_tb5) (ini := true) (pf := lm_pf5) rfl rfl rfl (fun _ => rfl) (fun _ => rfl) rfl (plainFor_of_name lm_pn5) lm_k_tb5 lm_k_pf5 lm_c123
theorem lm_g124 : lm_goodY lm_W0 lm_cl lm_dfs lm_vts lm_P lm_m124 := lm_good_of (i := 124) (z := (135, [])) (t := lm_tb6) (ini := true) (pf := lm_pf6) rfl rfl rfl (fun _ => rfl) (fun _ => rfl) rfl (plainFor_of_name lm_pn6) lm_k_tb6 lm_k_pf6 lm_c124
theorem lm_g125 : lm_goodY lm_W0 lm_cl lm_dfs lm_vts lm_P lm_m125 := lm_good_of (i := 125) (z := (159, [])) (t := lm_tb7) (ini := true) (pf := lm_pf7) rfl rfl rfl (fun _ => rfl) (fun _ => rfl) rfl (plainFor_of_name lm_pn7) lm_k_tb7 lm_k_pf7 lm_c125
theorem lm_g126 : lm_goodY lm_W0 lm_cl lm_dfs lm_vts lm_P lm_m126 := lm_good_of (i := 126) (z := (235, [])) (t := lm_tb13) (ini := false) (pf := lm_pf13) rfl rfl rfl (fun h => Bool.noConfusion h) (fun _ => rfl) rfl (plainFor_of_name lm_pn13) lm_k_tb13 lm_k_pf13 lm_c126
theorem lm_g127 : lm_goodY lm_W0 lm_cl lm_dfs lm_vts lm_P lm_m127 := lm_good_of (i := 127) (z := (1751, [])) (t := lm_tb11) (ini := false) (pf := lm_pf11) rfl rfl rfl (fun h => Bool.noConfusion h) (fun _ => rfl) rfl (plainFor_of_name lm_pn11) lm_k_tb11 lm_k_pf11 lm_c127
theorem lm_g128 : lm_goodY lm_W0 lm_cl lm_dfs lm_vts lm_P lm_m128 := lm_good_of (i := 128) (z := (1755, [])) (t := lm_tb11) (ini := false) (pf := lm_pf11) rfl rfl rfl (fun h => Bool.noConfusion h) (fun _ => rfl) rfl (plainFor_of_name lm_pn11) lm_k_tb11 lm_k_pf11 lm_c128
theorem lm_g129 : lm_goodY lm_W0 lm_cl lm_dfs lm_vts lm_P lm_m129 := lm_good_of (i := 129) (z := (1763, [])) (t := lm_tb11) (ini := false) (pf := lm_pf11) rfl rfl rfl (fun h => Bool.noConfusion h) (fun _ => rfl) rfl (plainFor_of_name lm_pn11) lm_k_tb11 lm_k_pf11 lm_c129
theorem lm_g130 : lm_goodY lm_W0 lm_cl lm_dfs lm_vts lm_P lm_m130 := lm_good_of (i := 130) (z := (1767, [])) (t := lm_tb11) (ini := false) (pf := lm_pf11) rfl rfl rfl (fun h => Bool.noConfusion h) (fun _ => rfl) rfl (plainFor_of_name lm_pn11) lm_k_tb11 lm_k_pf11 lm_c130
theorem lm_g131 : lm_goodY lm_W0 lm_cl lm_dfs lm_vts lm_P lm_m131 := lm_good_of (i := 131) (z := (539, [])) (t := lm_tb13) (ini := false) (pf := lm_pf13) rfl rfl rfl (fun h => Bool.noConfusion h) (fun _ => rfl) rfl (plainFor_of_name lm_pn13) lm_k_tb13 lm_k_pf13 lm_c131
theorem lm_g132 : lm_goodY lm_W0 lm_cl lm_dfs lm_vts lm_P lm_m132 := lm_good_of (i := 132) (z := (550, [])) (t := lm_tb0) (ini := false) (pf := lm_pf0) rfl rfl rfl (fun h => Bool.noConfusion h) (fun _ => rfl) rfl (plainFor_of_name lm_pn0) lm_k_tb0 lm_k_pf0 lm_c132
theorem lm_g133 : lm_goodY lm_W0 lm_cl lm_dfs lm_vts lm_P lm_m133 := lm_good_of (i := 133) (z := (571, [])) (t := lm_tb1) (ini := false) (pf := lm_pf1) rfl rfl rfl (fun h => Bool.noConfusion h) (fun _ => rfl) rfl (plainFor_of_name lm_pn1) lm_k_tb1 lm_k_pf1 lm_c133
theorem lm_g134 : lm_goodY lm_W0 lm_cl lm_dfs lm_vts lm_P lm_m134 := lm_good_of (i := 134) (z := (591, [])) (t := lm_tb17) (ini := false) (pf := lm_pf17) rfl rfl rfl (fun h => Bool.noConfusion h) (fun _ => rfl) rfl (plainFor_of_name lm_pn17) lm_k_tb17 lm_k_pf17 lm_c134
theorem lm_g135 : lm_goodY lm_W0 lm_cl lm_dfs lm_vts lm_P lm_m135 := lm_good_of (i := 135) (z := (863, [])) (t := lm_tb0) (ini := false) (pf := lm_pf0) rfl rfl rfl (fun h => Bool.noConfusion h) (fun _ => rfl) rfl (plainFor_of_name lm_pn0) lm_k_tb0 lm_k_pf0 lm_c135
theorem lm_g136 : lm_goodY lm_W0 lm_cl lm_dfs lm_vts lm_P lm_m136 := lm_good_of (i := 136) (z := (888, [])) (t := lm_tb13) (ini := false) (pf := lm_pf13) rfl rfl rfl (fun h => Bool.noConfusion h) (fun _ => rfl) rfl (plainFor_of_name lm_pn13) lm_k_tb13 lm_k_pf13 lm_c136
theorem lm_g137 : lm_goodY lm_W0 lm_cl lm_dfs lm_vts lm_P lm_m137 := lm_good_of (i := 137) (z := (898, [])) (t := lm_tb0) (ini := false) (pf := lm_pf0) rfl rfl rfl (fun h => Bool.noConfusion h) (fun _ => rfl) rfl (plainFor_of_name lm_pn0) lm_k_tb0 lm_k_pf0 lm_c137
theorem lm_g138 : lm_goodY lm_W0 lm_cl lm_dfs lm_vts lm_P lm_m138 := lm_good_of (i := 138) (z := (904, [])) (t := lm_tb2) (ini := false) (pf := lm_pf2) rfl rfl rfl (fun h => Bool.noConfusion h) (fun _ => rfl) rfl (plainFor_of_name lm_pn2) lm_k_tb2 lm_k_pf2 lm_c138
theorem lm_g139 : lm_goodY lm_W0 lm_cl lm_dfs lm_vts lm_P lm_m139 := lm_good_of (i := 139) (z := (908, [])) (t := lm_tb2) (ini := false) (pf := lm_pf2) rfl rfl rfl (fun h => Bool.noConfusion h) (fun _ => rfl) rfl (plainFor_of_name lm_pn2) lm_k_tb2 lm_k_pf2 lm_c139
theorem lm_g140 : lm_goodY lm_W0 lm_cl lm_dfs lm_vts lm_P lm_m140 := lm_good_of (i := 140) (z := (958, [])) (t := lm_tb3) (ini := false) (pf := lm_pf3) rfl rfl rfl (fun h => Bool.noConfusion h) (fun _ => rfl) rfl (plainFor_of_name lm_pn3) lm_k_tb3 lm_k_pf3 lm_c140
theorem lm_g141 : lm_goodY lm_W0 lm_cl lm_dfs lm_vts lm_P lm_m141 := lm_good_of (i := 141) (z := (1048, [])) (t := lm_tb2) (ini := false) (pf := lm_pf2) rfl rfl rfl (fun h => Bool.noConfusion h) (fun _ => rfl) rfl (plainFor_of_name lm_pn2) lm_k_tb2 lm_k_pf2 lm_c141
theorem lm_g142 : lm_goodY lm_W0 lm_cl lm_dfs lm_vts lm_P lm_m142 := lm_good_of (i := 142) (z := (1052, [])) (t := lm_tb2) (ini := false) (pf := lm_pf2) rfl rfl rfl (fun h => Bool.noConfusion h) (fun _ => rfl) rfl (plainFor_of_name lm_pn2) lm_k_tb2 lm_k_pf2 lm_c142
theorem lm_g143 : lm_goodY lm_W0 lm_cl lm_dfs lm_vts lm_P lm_m143 := lm_good_of (i := 143) (z := (1030, [])) (t := lm_tb5) (ini := false) (pf := lm_pf5) rfl rfl rfl (fun h => Bool.noConfusion h) (fun _ => rfl) rfl (plainFor_of_name lm_pn5) lm_k_tb5 lm_k_pf5 lm_c143
theorem lm_g144 : lm_goodY lm_W0 lm_cl lm_dfs lm_vts lm_P lm_m144 := lm_good_of (i := 144) (z := (999, [])) (t := lm_tb6) (ini := false) (pf := lm_pf6) rfl rfl rfl (fun h => Bool.noConfusion h) (fun _ => rfl) rfl (plainFor_of_name lm_pn6) lm_k_tb6 lm_k_pf6 lm_c144
theorem lm_g145 : lm_goodY lm_W0 lm_cl lm_dfs lm_vts lm_P lm_m145 := lm_good_of (i := 145) (z := (1019, [])) (t := lm_tb7) (ini := false) (pf := lm_pf7) rfl rfl rfl (fun h => Bool.noConfusion h) (fun _ => rfl) rfl (plainFor_of_name lm_pn7) lm_k_tb7 lm_k_pf7 lm_c145
theorem lm_g146 : lm_goodY lm_W0 lm_cl lm_dfs lm_vts lm_P lm_m146 := lm_good_of (i := 146) (z := (1777, [])) (t := lm_tb11) (ini := false) (pf := lm_pf11) rfl rfl rfl (fun h => Bool.noConfusion h) (fun _ => rfl) rfl (plainFor_of_name lm_pn11) lm_k_tb11 lm_k_pf11 lm_c146
theorem lm_g147 : lm_goodY lm_W0 lm_cl lm_dfs lm_vts lm_P lm_m147 := lm_good_of (i := 147) (z := (1818, [])) (t := lm_tb11) (ini := false) (pf := lm_pf11) rfl rfl rfl (fun h => Bool.noConfusion h) (fun _ => rfl) rfl (plainFor_of_name lm_pn11) lm_k_tb11 lm_k_pf11 lm_c147
theorem lm_g148 : lm_goodY lm_W0 lm_cl lm_dfs lm_vts lm_P lm_m148 := lm_good_of (i := 148) (z := (1787, [])) (t := lm_tb11) (ini := false) (pf := lm_pf11) rfl rfl rfl (fun h => Bool.noConfusion h) (fun _ => rfl) rfl (plainFor_of_name lm_pn11) lm_k_tb11 lm_k_pf11 lm_c148
theorem lm_g149 : lm_goodY lm_W0 lm_cl lm_dfs lm_vts lm_P lm_m149 := lm_good_of (i := 149) (z := (2109, [])) (t := lm_tb11) (ini := false) (pf := lm_pf11) rfl rfl rfl (fun h => Bool.noConfusion h) (fun _ => rfl) rfl (plainFor_of_name lm_pn11) lm_k_tb11 lm_k_pf11 lm_c149
theorem lm_g150 : lm_goodY lm_W0 lm_cl lm_dfs lm_vts lm_P lm_m150 := lm_good_of (i := 150) (z := (1107, [])) (t := lm_tb0) (ini := false) (pf := lm_pf0) rfl rfl rfl (fun h => Bool.noConfusion h) (fun _ => rfl) rfl (plainFor_of_name lm_pn0) lm_k_tb0 lm_k_pf0 lm_c150
theorem lm_g151 : lm_goodY lm_W0 lm_cl lm_dfs lm_vts lm_P lm_m151 := lm_good_of (i := 151) (z := (1127, [])) (t := lm_tb8) (ini := false) (pf := lm_pf8) rfl rfl rfl (fun h => Bool.noConfusion h) (fun _ => rfl) rfl (plainFor_of_name lm_pn8) lm_k_tb8 lm_k_pf8 lm_c151
theorem lm_g152 : lm_goodY lm_W0 lm_cl lm_dfs lm_vts lm_P lm_m152 := lm_good_of (i := 152) (z := (1131, [])) (t := lm_tb8) (ini := false) (pf := lm_pf8) rfl rfl rfl (fun h => Bool.noConfusion h) (fun _ => rfl) rfl (plainFor_of_name lm_pn8) lm_k_tb8 lm_k_pf8 lm_c152
theorem lm_g153 : lm_goodY lm_W0 lm_cl lm_dfs lm_vts lm_P lm_m153 := lm_good_of (i := 153) (z := (1791, [])) (t := lm_tb11) (ini := false) (pf := lm_pf11) rfl rfl rfl (fun h => Bool.noConfusion h) (fun _ => rfl) rfl (plainFor_of_name lm_pn11) lm_k_tb11 lm_k_pf11 lm_c153
theorem lm_g154 : lm_goodY lm_W0 lm_cl lm_dfs lm_vts lm_P lm_m154 := lm_good_of (i := 154) (z := (1796, [])) (t := lm_tb11) (ini := false) (pf := lm_pf11) rfl rfl rfl (fun h => Bool.noConfusion h) (fun _ => rfl) rfl (plainFor_of_name lm_pn11) lm_k_tb11 lm_k_pf11 lm_c154
theorem lm_g155 : lm_goodY lm_W0 lm_cl lm_dfs lm_vts lm_P lm_m155 := lm_good_of (i := 155) (z := (1804, [])) (t := lm_tb11) (ini := false) (pf := lm_pf11) rfl rfl rfl (fun h => Bool.noConfusion h) (fun _ => rfl) rfl (plainFor_of_name lm_pn11) lm_k_tb11 lm_k_pf11 lm_c155
theorem lm_g156 : lm_goodY lm_W0 lm_cl lm_dfs lm_vts lm_P lm_m156 := lm_good_of (i := 156) (z := (1811, [])) (t := lm_tb11) (ini := false) (pf := lm_pf11) rfl rfl rfl (fun h => Bool.noConfusion h) (fun _ => rfl) rfl (plainFor_of_name lm_pn11) lm_k_tb11 lm_k_pf11 lm_c156
theorem lm_g157 : lm_goodY lm_W0 lm_cl lm_dfs lm_vts lm_P lm_m157 := lm_good_of (i := 157) (z := (2139, [])) (t := lm_tb11) (ini := false) (pf := lm_pf11) rfl rfl rfl (fun h => Bool.noConfusion h) (fun _ => rfl) rfl (plainFor_of_name lm_pn11) lm_k_tb11 lm_k_pf11 lm_c157
theorem lm_g158 : lm_goodY lm_W0 lm_cl lm_dfs lm_vts lm_P lm_m158 := lm_good_of (i := 158) (z := (2146, [])) (t := lm_tb11) (ini := false) (pf := lm_pf11) rfl rfl rfl (fun h => Bool.noConfusion h) (fun _ => rfl) rfl (plainFor_of_name lm_pn11) lm_k_tb11 lm_k_pf11 lm_c158
theorem lm_g159 : lm_goodY lm_W0 lm_cl lm_dfs lm_vts lm_P lm_m159 := lm_good_of (i := 159) (z := (1214, [])) (t := lm_tb8) (ini := false) (pf := lm_pf8) rfl rfl rfl (fun h => Bool.noConfusion h) (fun _ => rfl) rfl (plainFor_of_name lm_pn8) lm_k_tb8 lm_k_pf8 lm_c159
theorem lm_g160 : lm_goodY lm_W0 lm_cl lm_dfs lm_vts lm_P lm_m160 := lm_good_of (i := 160) (z := (1220, [])) (t := lm_tb0) (ini := false) (pf := lm_pf0) rfl rfl rfl (fun h => Bool.noConfusion h) (fun _ => rfl) rfl (plainFor_of_name lm_pn0) lm_k_tb0 lm_k_pf0 lm_c160
theorem lm_g161 : lm_goodY lm_W0 lm_cl lm_dfs lm_vts lm_P lm_m161 := lm_good_of (i := 161) (z := (1240, [])) (t := lm_tb8) (ini := false) (pf := lm_pf8) rfl rfl rfl (fun h => Bool.noConfusion h) (fun _ => rfl) rfl (plainFor_of_name lm_pn8) lm_k_tb8 lm_k_pf8 lm_c161
theorem lm_g162 : lm_goodY lm_W0 lm_cl lm_dfs lm_vts lm_P lm_m162 := lm_good_of (i := 162) (z := (1277, [])) (t := lm_tb8) (ini := false) (pf := lm_pf8) rfl rfl rfl (fun h => Bool.noConfusion h) (fun _ => rfl) rfl (plainFor_of_name lm_pn8) lm_k_tb8 lm_k_pf8 lm_c162
theorem lm_g163 : lm_goodY lm_W0 lm_cl lm_dfs lm_vts lm_P lm_m163 := lm_good_of (i := 163) (z := (1281, [])) (t := lm_tb8) (ini := false) (pf := lm_pf8) rfl rfl rfl (fun h => Bool.noConfusion h) (fun _ => rfl) rfl (plainFor_of_name lm_pn8) lm_k_tb8 lm_k_pf8 lm_c163
theorem lm_g164 : lm_goodY lm_W0 lm_cl lm_dfs lm_vts lm_P lm_m164 := lm_good_of (i := 164) (z := (1286, [])) (t := lm_tb8) (ini := false) (pf := lm_pf8) rfl rfl rfl (fun h => Bool.noConfusion h) (fun _ => rfl) rfl (plainFor_of_name lm_pn8) lm_k_tb8 lm_k_pf8 lm_c164
theorem lm_g165 : lm_goodY lm_W0 lm_cl lm_dfs lm_vts lm_P lm_m165 := lm_good_of (i := 165) (z := (1301, [])) (t := lm_tb9) (ini := false) (pf := lm_pf9) rfl rfl rfl (fun h => Bool.noConfusion h) (fun _ => rfl) rfl (plainFor_of_name lm_pn9) lm_k_tb9 lm_k_pf9 lm_c165
theorem lm_g166 : lm_goodY lm_W0 lm_cl lm_dfs lm_vts lm_P lm_m166 := lm_good_of (i := 166) (z := (1309, [])) (t := lm_tb9) (ini := false) (pf := lm_pf9) rfl rfl rfl (fun h => Bool.noConfusion h) (fun _ => rfl) rfl (plainFor_of_name lm_pn9) lm_k_tb9 lm_k_pf9 lm_c166
theorem lm_g167 : lm_goodY lm_W0 lm_cl lm_dfs lm_vts lm_P lm_m167 := lm_good_of (i := 167) (z := (2216, [])) (t := lm_tb11) (ini := false) (pf := lm_pf11) rfl rfl rfl (fun h => Bool.noConfusion h) (fun _ => rfl) rfl (plainFor_of_name lm_pn11) lm_k_tb11 lm_k_pf11 lm_c167
theorem lm_g168 : lm_goodY lm_W0 lm_cl lm_dfs lm_vts lm_P lm_m168 := lm_good_of (i := 168) (z := (1393, [])) (t := lm_tb4) (ini := false) (pf := lm_pf4) rfl rfl rfl (fun h => Bool.noConfusion h) (fun _ => rfl) rfl (plainFor_of_name lm_pn4) lm_k_tb4 lm_k_pf4 lm_c168
theorem lm_g169 : lm_goodY lm_W0 lm_cl lm_dfs lm_vts lm_P lm_m169 := lm_good_of (i := 169) (z := (1382, [])) (t := lm_tb9) (ini := false) (pf := lm_pf9) rfl rfl rfl (fun h => Bool.noConfusion h) (fun _ => rfl) rfl (plainFor_of_name lm_pn9) lm_k_tb9 lm_k_pf9 lm_c169
theorem lm_g170 : lm_goodY lm_W0 lm_cl lm_dfs lm_vts lm_P lm_m170 := lm_good_of (i := 170) (z := (1398, [])) (t := lm_tb4) (ini := false) (pf := lm_pf4) rfl rfl rfl (fun h => Bool.noConfusion h) (fun _ => rfl) rfl (plainFor_of_name lm_pn4) lm_k_tb4 lm_k_pf4 lm_c170
theorem lm_g171 : lm_goodY lm_W0 lm_cl lm_dfs lm_vts lm_P lm_m171 := lm_good_of (i := 171) (z := (1414, [])) (t := lm_tb9) (ini := false) (pf := lm_pf9) rfl rfl rfl (fun h => Bool.noConfusion h) (fun _ => rfl) rfl (plainFor_of_name lm_pn9) lm_k_tb9 lm_k_pf9 lm_c171
theorem lm_g172 : lm_goodY lm_W0 lm_cl lm_dfs lm_vts lm_P lm_m172 := lm_good_of (i := 172) (z := (2289, [])) (t := lm_tb11) (ini := false) (pf := lm_pf11) rfl rfl rfl (fun h => Bool.noConfusion h) (fun _ => rfl) rfl (plainFor_of_name lm_pn11) lm_k_tb11 lm_k_pf11 lm_c172
theorem lm_g173 : lm_goodY lm_W0 lm_cl lm_dfs lm_vts lm_P lm_m173 := lm_good_of (i := 173) (z := (1374, [])) (t := lm_tb9) (ini := false) (pf := lm_pf9) rfl rfl rfl (fun h => Bool.noConfusion h) (fun _ => rfl) rfl (plainFor_of_name lm_pn9) lm_k_tb9 lm_k_pf9 lm_c173
theorem lm_g174 : lm_goodY lm_W0 lm_cl lm_dfs lm_vts lm_P lm_m174 := lm_good_of (i := 174) (z := (1531, [])) (t := lm_tb9) (ini := false) (pf := lm_pf9) rfl rfl rfl (fun h => Bool.noConfusion h) (fun _ => rfl) rfl (plainFor_of_name lm_pn9) lm_k_tb9 lm_k_pf9 lm_c174
theorem lm_g175 : lm_goodY lm_W0 lm_cl lm_dfs lm_vts lm_P lm_m175 := lm_good_of (i := 175) (z := (1539, [])) (t := lm_tb9) (ini := false) (pf := lm_pf9) rfl rfl rfl (fun h => Bool.noConfusion h) (fun _ => rfl) rfl (plainFor_of_name lm_pn9) lm_k_tb9 lm_k_pf9 lm_c175
theorem lm_g176 : lm_goodY lm_W0 lm_cl lm_dfs lm_vts lm_P lm_m176 := lm_good_of (i := 176) (z := (1559, [])) (t := lm_tb10) (ini := false) (pf := lm_pf10) rfl rfl rfl (fun h => Bool.noConfusion h) (fun _ => rfl) rfl (plainFor_of_name lm_pn10) lm_k_tb10 lm_k_pf10 lm_c176
theorem lm_g177 : lm_goodY lm_W0 lm_cl lm_dfs lm_vts lm_P lm_m177 := lm_good_of (i := 177) (z := (1575, [])) (t := lm_tb10) (ini := false) (pf := lm_pf10) rfl rfl rfl (fun h => Bool.noConfusion h) (fun _ => rfl) rfl (plainFor_of_name lm_pn10) lm_k_tb10 lm_k_pf10 lm_c177
theorem lm_g178 : lm_goodY lm_W0 lm_cl lm_dfs lm_vts lm_P lm_m178 := lm_good_of (i := 178) (z := (2326, [])) (t := lm_tb11) (ini := false) (pf := lm_pf11) rfl rfl rfl (fun h => Bool.noConfusion h) (fun _ => rfl) rfl (plainFor_of_name lm_pn11) lm_k_tb11 lm_k_pf11 lm_c178
theorem lm_g179 : lm_goodY lm_W0 lm_cl lm_dfs lm_vts lm_P lm_m179 := lm_good_of (i := 179) (z := (2330, [])) (t := lm_tb11) (ini := false) (pf := lm_pf11) rfl rfl rfl (fun h => Bool.noConfusion h) (fun _ => rfl) rfl (plainFor_of_name lm_pn11) lm_k_tb11 lm_k_pf11 lm_c179
theorem lm_g180 : lm_goodY lm_W0 lm_cl lm_dfs lm_vts lm_P lm_m180 := lm_good_of (i := 180) (z := (2338, [])) (t := lm_tb11) (ini := false) (pf := lm_pf11) rfl rfl rfl (fun h => Bool.noConfusion h) (fun _ => rfl) rfl (plainFor_of_name lm_pn11) lm_k_tb11 lm_k_pf11 lm_c180
theorem lm_g181 : lm_goodY lm_W0 lm_cl lm_dfs lm_vts lm_P lm_m181 := lm_good_of (i := 181) (z := (1634, [])) (t := lm_tb10) (ini := false) (pf := lm_pf10) rfl rfl rfl (fun h => Bool.noConfusion h) (fun _ => rfl) rfl (plainFor_of_name lm_pn10) lm_k_tb10 lm_k_pf10 lm_c181
theorem lm_g182 : lm_goodY lm_W0 lm_cl lm_dfs lm_vts lm_P lm_m182 := lm_good_of (i := 182) (z := (1660, [])) (t := lm_tb10) (ini := false) (pf := lm_pf10) rfl rfl rfl (fun h => Bool.noConfusion h) (fun _ => rfl) rfl (plainFor_of_name lm_pn10) lm_k_tb10 lm_k_pf10 lm_c182
theorem lm_g183 : lm_goodY lm_W0 lm_cl lm_dfs lm_vts lm_P lm_m183 := lm_good_of (i := 183) (z := (1684, [])) (t := lm_tb10) (ini := false) (pf := lm_pf10) rfl rfl rfl (fun h => Bool.noConfusion h) (fun _ => rfl) rfl (plainFor_of_name lm_pn10) lm_k_tb10 lm_k_pf10 lm_c183
theorem lm_g184 : lm_goodY lm_W0 lm_cl lm_dfs lm_vts lm_P lm_m184 := lm_good_of (i := 184) (z := (1708, [])) (t := lm_tb10) (ini := false) (pf := lm_pf10) rfl rfl rfl (fun h => Bool.noConfusion h) (fun _ => rfl) rfl (plainFor_of_name lm_pn10) lm_k_tb10 lm_k_pf10 lm_c184
theorem lm_g185 : lm_goodY lm_W0 lm_cl lm_dfs lm_vts lm_P lm_m185 := lm_good_of (i := 185) (z := (2370, [])) (t := lm_tb11) (ini := false) (pf := lm_pf11) rfl rfl rfl (fun h => Bool.noConfusion h) (fun _ => rfl) rfl (plainFor_of_name lm_pn11) lm_k_tb11 lm_k_pf11 lm_c185
theorem lm_g186 : lm_goodY lm_W0 lm_cl lm_dfs lm_vts lm_P lm_m186 := lm_good_of (i := 186) (z := (2334, [])) (t := lm_tb11) (ini := false) (pf := lm_pf11) rfl rfl rfl (fun h => Bool.noConfusion h) (fun _ => rfl) rfl (plainFor_of_name lm_pn11) lm_k_tb11 lm_k_pf11 lm_c186
theorem lm_g187 : lm_goodY lm_W0 lm_cl lm_dfs lm_vts lm_P lm_m187 := lm_good_of (i := 187) (z := (2374, [])) (t := lm_tb11) (ini := false) (pf := lm_pf11) rfl rfl rfl (fun h => Bool.noConfusion h) (fun _ => rfl) rfl (plainFor_of_name lm_pn11) lm_k_tb11 lm_k_pf11 lm_c187
theorem lm_g188 : lm_goodY lm_W0 lm_cl lm_dfs lm_vts lm_P lm_m188 := lm_good_of (i := 188) (z := (2382, [])) (t := lm_tb11) (ini := false) (pf := lm_pf11) rfl rfl rfl (fun h => Bool.noConfusion h) (fun _ => rfl) rfl (plainFor_of_name lm_pn11) lm_k_tb11 lm_k_pf11 lm_c188
theorem lm_g189 : lm_goodY lm_W0 lm_cl lm_dfs lm_vts lm_P lm_m189 := lm_good_of (i := 189) (z := (2390, [])) (t := lm_tb11) (ini := false) (pf := lm_pf11) rfl rfl rfl (fun h => Bool.noConfusion h) (fun _ => rfl) rfl (plainFor_of_name lm_pn11) lm_k_tb11 lm_k_pf11 lm_c189
theorem lm_g190 : lm_goodY lm_W0 lm_cl lm_dfs lm_vts lm_P lm_m190 := lm_good_of (i := 190) (z := (2342, [])) (t := lm_tb11) (ini := false) (pf := lm_pf11) rfl rfl rfl (fun h => Bool.noConfusion h) (fun _ => rfl) rfl (plainFor_of_name lm_pn11) lm_k_tb11 lm_k_pf11 lm_c190
theorem lm_g191 : lm_goodY lm_W0 lm_cl lm_dfs lm_vts lm_P lm_m191 := lm_good_of (i := 191) (z := (1719, [])) (t := lm_tb10) (ini := false) (pf := lm_pf10) rfl rfl rfl (fun h => Bool.noConfusion h) (fun _ => rfl) rfl (plainFor_of_name lm_pn10) lm_k_tb10 lm_k_pf10 lm_c191
theorem lm_g192 : lm_goodY lm_W0 lm_cl lm_dfs lm_vts lm_P lm_m192 := lm_good_of (i := 192) (z := (1580, [])) (t := lm_tb10) (ini := false) (pf := lm_pf10) rfl rfl rfl (fun h => Bool.noConfusion h) (fun _ => rfl) rfl (plainFor_of_name lm_pn10) lm_k_tb10 lm_k_pf10 lm_c192
theorem lm_g193 : lm_goodY lm_W0 lm_cl lm_dfs lm_vts lm_P lm_m193 := lm_good_of (i := 193) (z := (1596, [])) (t := lm_tb10) (ini := false) (pf := lm_pf10) rfl rfl rfl (fun h => Bool.noConfusion h) (fun _ => rfl) rfl (plainFor_of_name lm_pn10) lm_k_tb10 lm_k_pf10 lm_c193
theorem lm_g194 : lm_goodY lm_W0 lm_cl lm_dfs lm_vts lm_P lm_m194 := lm_good_of (i := 194) (z := (1601, [])) (t := lm_tb10) (ini := false) (pf := lm_pf10) rfl rfl rfl (fun h => Bool.noConfusion h) (fun _ => rfl) rfl (plainFor_of_name lm_pn10) lm_k_tb10 lm_k_pf10 lm_c194
theorem lm_g195 : lm_goodY lm_W0 lm_cl lm_dfs lm_vts lm_P lm_m195 := lm_good_of (i := 195) (z := (82, [])) (t := lm_tb3) (ini := true) (pf := lm_pf3) rfl rfl rfl (fun _ => rfl) (fun _ => rfl) rfl (plainFor_of_name lm_pn3) lm_k_tb3 lm_k_pf3 lm_c195
theorem lm_g196 : lm_goodY lm_W0 lm_cl lm_dfs lm_vts lm_P lm_m196 := lm_good_of (i := 196) (z := (238, [])) (t := lm_tb14) (ini := false) (pf := lm_pf14) rfl rfl rfl (fun h => Bool.noConfusion h) (fun _ => rfl) rfl (plainFor_of_name lm_pn14) lm_k_tb14 lm_k_pf14 lm_c196
theorem lm_g197 : lm_goodY lm_W0 lm_cl lm_dfs lm_vts lm_P lm_m197 := lm_good_of (i := 197) (z := (1759, [])) (t := lm_tb11) (ini := false) (pf := lm_pf11) rfl rfl rfl (fun h => Bool.noConfusion h) (fun _ => rfl) rfl (plainFor_of_name lm_pn11) lm_k_tb11 lm_k_pf11 lm_c197
theorem lm_g198 : lm_goodY lm_W0 lm_cl lm_dfs lm_vts lm_P lm_m198 := lm_good_of (i := 198) (z := (594, [])) (t := lm_tb17) (ini := false) (pf := lm_pf17) rfl rfl rfl (fun h => Bool.noConfusion h) (fun _ => rfl) rfl (plainFor_of_name lm_pn17) lm_k_tb17 lm_k_pf17 lm_c198
theorem lm_g199 : lm_goodY lm_W0 lm_cl lm_dfs lm_vts lm_P lm_m199 := lm_good_of (i := 199) (z := (951, [])) (t := lm_tb17) (ini := false) (pf := lm_pf17) rfl rfl rfl (fun h => Bool.noConfusion h) (fun _ => rfl) rfl (plainFor_of_name lm_pn17) lm_k_tb17 lm_k_pf17 lm_c199
theorem lm_g200 : lm_goodY lm_W0 lm_cl lm_dfs lm_vts lm_P lm_m200 := lm_good_of (i := 200) (z := (941, [])) (t := lm_tb5) (ini := false) (pf := lm_pf5) rfl rfl rfl (fun h => Bool.noConfusion h) (fun _ => rfl) rfl (plainFor_of_name lm_pn5) lm_k_tb5 lm_k_pf5 lm_c200
theorem lm_g201 : lm_goodY lm_W0 lm_cl lm_dfs lm_vts lm_P lm_m201 := lm_good_of (i := 201) (z := (918, [])) (t := lm_tb6) (ini := false) (pf := lm_pf6) rfl rfl rfl (fun h => Bool.noConfusion h) (fun _ => rfl) rfl (plainFor_of_name lm_pn6) lm_k_tb6 lm_k_pf6 lm_c201
theorem lm_g202 : lm_goodY lm_W0 lm_cl lm_dfs lm_vts lm_P lm_m202 := lm_good_of (i := 202) (z := (929, [])) (t := lm_tb7) (ini := false) (pf := lm_pf7) rfl rfl rfl (fun h => Bool.noConfusion h) (fun _ => rfl) rfl (plainFor_of_name lm_pn7) lm_k_tb7 lm_k_pf7 lm_c202
theorem lm_g203 : lm_goodY lm_W0 lm_cl lm_dfs lm_vts lm_P lm_m203 := lm_good_of (i := 203) (z := (1042, [])) (t := lm_tb2) (ini := false) (pf := lm_pf2) rfl rfl rfl (fun h => Bool.noConfusion h) (fun _ => rfl) rfl (plainFor_of_name lm_pn2) lm_k_tb2 lm_k_pf2 lm_c203
theorem lm_g204 : lm_goodY lm_W0 lm_cl lm_dfs lm_vts lm_P lm_m204 := lm_good_of (i := 204) (z := (912, [])) (t := lm_tb2) (ini := false) (pf := lm_pf2) rfl rfl rfl (fun h => Bool.noConfusion h) (fun _ => rfl) rfl (plainFor_of_name lm_pn2) lm_k_tb2 lm_k_pf2 lm_c204
theorem lm_g205 : lm_goodY lm_W0 lm_cl lm_dfs lm_vts lm_P lm_m205 := lm_good_of (i := 205) (z := (670, [])) (t := lm_tb16) (ini := false) (pf := lm_pf16) rfl rfl rfl (fun h => Bool.noConfusion h) (fun _ => rfl) rfl (by decide +kernel) lm_k_tb16 lm_k_pf16 lm_c205
theorem lm_g206 : lm_goodY lm_W0 lm_cl lm_dfs lm_vts lm_P lm_m206 := lm_good_of (i := 206) (z := (982, [])) (t := lm_tb5) (ini := false) (pf := lm_pf5) rfl rfl rfl (fun h => Bool.noConfusion h) (fun _ => rfl) rfl (plainFor_of_name lm_pn5) lm_k_tb5 lm_k_pf5 lm_c206
theorem lm_g207 : lm_goodY lm_W0 lm_cl lm_dfs lm_vts lm_P lm_m207 := lm_good_of (i := 207) (z := (966, [])) (t := lm_tb6) (ini := false) (pf := lm_pf6) rfl rfl rfl (fun h => Bool.noConfusion h) (fun _ => rfl) rfl (plainFor_of_name lm_pn6) lm_k_tb6 lm_k_pf6 lm_c207
theorem lm_g208 : lm_goodY lm_W0 lm_cl lm_dfs lm_vts lm_P lm_m208 := lm_good_of (i := 208) (z := (974, [])) (t := lm_tb7) (ini := false) (pf := lm_pf7) rfl rfl rfl (fun h => Bool.noConfusion h) (fun _ => rfl) rfl (plainFor_of_name lm_pn7) lm_k_tb7 lm_k_pf7 lm_c208
theorem lm_g209 : lm_goodY lm_W0 lm_cl lm_dfs lm_vts lm_P lm_m209 := lm_good_of (i := 209) (z := (1059, [])) (t := lm_tb3) (ini := false) (pf := lm_pf3) rfl rfl rfl (fun h => Bool.noConfusion h) (fun _ => rfl) rfl (plainFor_of_name lm_pn3) lm_k_tb3 lm_k_pf3 lm_c209
theorem lm_g210 : lm_goodY lm_W0 lm_cl lm_dfs lm_vts lm_P lm_m210 := lm_good_of (i := 210) (z := (1081, [])) (t := lm_tb3) (ini := false) (pf := lm_pf3) rfl rfl rfl (fun h => Bool.noConfusion h) (fun _ => rfl) rfl (plainFor_of_name lm_pn3) lm_k_tb3 lm_k_pf3 lm_c210
theorem lm_g211 : lm_goodY lm_W0 lm_cl lm_dfs lm_vts lm_P lm_m211 := lm_good_of (i := 211) (z := (1037, [])) (t := lm_tb5) (ini := false) (pf := lm_pf5) rfl rfl rfl (fun h => Bool.noConfusion h) (fun _ => rfl) rfl (plainFor_of_name lm_pn5) lm_k_tb5 lm_k_pf5 lm_c211
theorem lm_g212 : lm_goodY lm_W0 lm_cl lm_dfs lm_vts lm_P lm_m212 := lm_good_of (i := 212) (z := (986, [])) (t := lm_tb5) (ini := false) (pf := lm_pf5) rfl rfl rfl (fun h => Bool.noConfusion h) (fun _ => rfl) rfl (plainFor_of_name lm_pn5) lm_k_tb5 lm_k_pf5 lm_c212
theorem lm_g213 : lm_goodY lm_W0 lm_cl lm_dfs lm_vts lm_P lm_m213 := lm_good_of (i := 213) (z := (1005, [])) (t := lm_tb3) (ini := false) (pf := lm_pf3) rfl rfl rfl (fun h => Bool.noConfusion h) (fun _ => rfl) rfl (plainFor_of_name lm_pn3) lm_k_tb3 lm_k_pf3 lm_c213
theorem lm_g214 : lm_goodY lm_W0 lm_cl lm_dfs lm_vts lm_P lm_m214 := lm_good_of (i := 214) (z := (1014, [])) (t := lm_tb3) (ini := false) (pf := lm_pf3) rfl rfl rfl (fun h => Bool.noConfusion h) (fun _ => rfl) rfl (plainFor_of_name lm_pn3) lm_k_tb3 lm_k_pf3 lm_c214
theorem lm_g215 : lm_goodY lm_W0 lm_cl lm_dfs lm_vts lm_P lm_m215 := lm_good_of (i := 215) (z := (1136, [])) (t := lm_tb8) (ini := false) (pf := lm_pf8) rfl rfl rfl (fun h => Bool.noConfusion h) (fun _ => rfl) rfl (plainFor_of_name lm_pn8) lm_k_tb8 lm_k_pf8 lm_c215
theorem lm_g216 : lm_goodY lm_W0 lm_cl lm_dfs lm_vts lm_P lm_m216 := lm_good_of (i := 216) (z := (1143, [])) (t := lm_tb8) (ini := false) (pf := lm_pf8) rfl rfl rfl (fun h => Bool.noConfusion h) (fun _ => rfl) rfl (plainFor_of_name lm_pn8) lm_k_tb8 lm_k_pf8 lm_c216
theorem lm_g217 : lm_goodY lm_W0 lm_cl lm_dfs lm_vts lm_P lm_m217 := lm_good_of (i := 217) (z := (1177, [])) (t := lm_tb8) (ini := false) (pf := lm_pf8) rfl rfl rfl (fun h => Bool.noConfusion h) (fun _ => rfl) rfl (plainFor_of_name lm_pn8) lm_k_tb8 lm_k_pf8 lm_c217
theorem lm_g218 : lm_goodY lm_W0 lm_cl lm_dfs lm_vts lm_P lm_m218 := lm_good_of (i := 218) (z := (1181, [])) (t := lm_tb8) (ini := false) (pf := lm_pf8) rfl rfl rfl (fun h => Bool.noConfusion h) (fun _ => rfl) rfl (plainFor_of_name lm_pn8) lm_k_tb8 lm_k_pf8 lm_c218
theorem lm_g219 : lm_goodY lm_W0 lm_cl lm_dfs lm_vts lm_P lm_m219 := lm_good_of (i := 219) (z := (1190, [])) (t := lm_tb13) (ini := false) (pf := lm_pf13) rfl rfl rfl (fun h => Bool.noConfusion h) (fun _ => rfl) rfl (plainFor_of_name lm_pn13) lm_k_tb13 lm_k_pf13 lm_c219
theorem lm_g220 : lm_goodY lm_W0 lm_cl lm_dfs lm_vts lm_P lm_m220 := lm_good_of (i := 220) (z := (1194, [])) (t := lm_tb8) (ini := false) (pf := lm_pf8) rfl rfl rfl (fun h => Bool.noConfusion h) (fun _ => rfl) rfl (plainFor_of_name lm_pn8) lm_k_tb8 lm_k_pf8 lm_c220
theorem lm_g221 : lm_goodY lm_W0 lm_cl lm_dfs lm_vts lm_P lm_m221 := lm_good_of (i := 221) (z := (1184, [])) (t := lm_tb8) (ini := false) (pf := lm_pf8) rfl rfl rfl (fun h => Bool.noConfusion h) (fun _ => rfl) rfl (plainFor_of_name lm_pn8) lm_k_tb8 lm_k_pf8 lm_c221
theorem lm_g222 : lm_goodY lm_W0 lm_cl lm_dfs lm_vts lm_P lm_m222 := lm_good_of (i := 222) (z := (1198, [])) (t := lm_tb8) (ini := false) (pf := lm_pf8) rfl rfl rfl (fun h => Bool.noConfusion h) (fun _ => rfl) rfl (plainFor_of_name lm_pn8) lm_k_tb8 lm_k_pf8 lm_c222
theorem lm_g223 : lm_goodY lm_W0 lm_cl lm_dfs lm_vts lm_P lm_m223 := lm_good_of (i := 223) (z := (1202, [])) (t := lm_tb8) (ini := false) (pf := lm_pf8) rfl rfl rfl (fun h => Bool.noConfusion h) (fun _ => rfl) rfl (plainFor_of_name lm_pn8) lm_k_tb8 lm_k_pf8 lm_c223
theorem lm_g224 : lm_goodY lm_W0 lm_cl lm_dfs lm_vts lm_P lm_m224 := lm_good_of (i := 224) (z := (1799, [])) (t := lm_tb11) (ini := false) (pf := lm_pf11) rfl rfl rfl (fun h => Bool.noConfusion h) (fun _ => rfl) rfl (plainFor_of_name lm_pn11) lm_k_tb11 lm_k_pf11 lm_c224
theorem lm_g225 : lm_goodY lm_W0 lm_cl lm_dfs lm_vts lm_P lm_m225 := lm_good_of (i := 225) (z := (1807, [])) (t := lm_tb11) (ini := false) (pf := lm_pf11) rfl rfl rfl (fun h => Bool.noConfusion h) (fun _ => rfl) rfl (plainFor_of_name lm_pn11) lm_k_tb11 lm_k_pf11 lm_c225
theorem lm_g226 : lm_goodY lm_W0 lm_cl lm_dfs lm_vts lm_P lm_m226 := lm_good_of (i := 226) (z := (1814, [])) (t := lm_tb11) (ini := false) (pf := lm_pf11) rfl rfl rfl (fun h => Bool.noConfusion h) (fun _ => rfl) rfl (plainFor_of_name lm_pn11) lm_k_tb11 lm_k_pf11 lm_c226
theorem lm_g227 : lm_goodY lm_W0 lm_cl lm_dfs lm_vts lm_P lm_m227 := lm_good_of (i := 227) (z := (1217, [])) (t := lm_tb13) (ini := false) (pf := lm_pf13) rfl rfl rfl (fun h => Bool.noConfusion h) (fun _ => rfl) rfl (plainFor_of_name lm_pn13) lm_k_tb13 lm_k_pf13 lm_c227
theorem lm_g228 : lm_goodY lm_W0 lm_cl lm_dfs lm_vts lm_P lm_m228 := lm_good_of (i := 228) (z := (1244, [])) (t := lm_tb8) (ini := false) (pf := lm_pf8) rfl rfl rfl (fun h => Bool.noConfusion h) (fun _ => rfl) rfl (plainFor_of_name lm_pn8) lm_k_tb8 lm_k_pf8 lm_c228
theorem lm_g229 : lm_goodY lm_W0 lm_cl lm_dfs lm_vts lm_P lm_m229 := lm_good_of (i := 229) (z := (1265, [])) (t := lm_tb8) (ini := false) (pf := lm_pf8) rfl rfl rfl (fun h => Bool.noConfusion h) (fun _ => rfl) rfl (plainFor_of_name lm_pn8) lm_k_tb8 lm_k_pf8 lm_c229
theorem lm_g230 : lm_goodY lm_W0 lm_cl lm_dfs lm_vts lm_P lm_m230 := lm_good_of (i := 230) (z := (1290, [])) (t := lm_tb8) (ini := false) (pf := lm_pf8) rfl rfl rfl (fun h => Bool.noConfusion h) (fun _ => rfl) rfl (plainFor_of_name lm_pn8) lm_k_tb8 lm_k_pf8 lm_c230
theorem lm_g231 : lm_goodY lm_W0 lm_cl lm_dfs lm_vts lm_P lm_m231 := lm_good_of (i := 231) (z := (1313, [])) (t := lm_tb9) (ini := false) (pf := lm_pf9) rfl rfl rfl (fun h => Bool.noConfusion h) (fun _ => rfl) rfl (plainFor_of_name lm_pn9) lm_k_tb9 lm_k_pf9 lm_c231
theorem lm_g232 : lm_goodY lm_W0 lm_cl lm_dfs lm_vts lm_P lm_m232 := lm_good_of (i := 232) (z := (1321, [])) (t := lm_tb9) (ini := false) (pf := lm_pf9) rfl rfl rfl (fun h => Bool.noConfusion h) (fun _ => rfl) rfl (plainFor_of_name lm_pn9) lm_k_tb9 lm_k_pf9 lm_c232
theorem lm_g233 : lm_goodY lm_W0 lm_cl lm_dfs lm_vts lm_P lm_m233 := lm_good_of (i := 233) (z := (1338, [])) (t := lm_tb9) (ini := false) (pf := lm_pf9) rfl rfl rfl (fun h => Bool.noConfusion h) (fun _ => rfl) rfl (plainFor_of_name lm_pn9) lm_k_tb9 lm_k_pf9 lm_c233
theorem lm_g234 : lm_goodY lm_W0 lm_cl lm_dfs lm_vts lm_P lm_m234 := lm_good_of (i := 234) (z := (1344, [])) (t := lm_tb9) (ini := false) (pf := lm_pf9) rfl rfl rfl (fun h => Bool.noConfusion h) (fun _ => rfl) rfl (plainFor_of_name lm_pn9) lm_k_tb9 lm_k_pf9 lm_c234
theorem lm_g235 : lm_goodY lm_W0 lm_cl lm_dfs lm_vts lm_P lm_m235 := lm_good_of (i := 235) (z := (1348, [])) (t := lm_tb9) (ini := false) (pf := lm_pf9) rfl rfl rfl (fun h => Bool.noConfusion h) (fun _ => rfl) rfl (plainFor_of_name lm_pn9) lm_k_tb9 lm_k_pf9 lm_c235
theorem lm_g236 : lm_goodY lm_W0 lm_cl lm_dfs lm_vts lm_P lm_m236 := lm_good_of (i := 236) (z := (1353, [])) (t := lm_tb9) (ini := false) (pf := lm_pf9) rfl rfl rfl (fun h => Bool.noConfusion h) (fun _ => rfl) rfl (plainFor_of_name lm_pn9) lm_k_tb9 lm_k_pf9 lm_c236
theorem lm_g237 : lm_goodY lm_W0 lm_cl lm_dfs lm_vts lm_P lm_m237 := lm_good_of (i := 237) (z := (1357, [])) (t := lm_tb9) (ini := false) (pf := lm_pf9) rfl rfl rfl (fun h => Bool.noConfusion h) (fun _ => rfl) rfl (plainFor_of_name lm_pn9) lm_k_tb9 lm_k_pf9 lm_c237
theorem lm_g238 : lm_goodY lm_W0 lm_cl lm_dfs lm_vts lm_P lm_m238 := lm_good_of (i := 238) (z := (1361, [])) (t := lm_tb9) (ini := false) (pf := lm_pf9) rfl rfl rfl (fun h => Bool.noConfusion h) (fun _ => rfl) rfl (plainFor_of_name lm_pn9) lm_k_tb9 lm_k_pf9 lm_c238
theorem lm_g239 : lm_goodY lm_W0 lm_cl lm_dfs lm_vts lm_P lm_m239 := lm_good_of (i := 239) (z := (1369, [])) (t := lm_tb9) (ini := false) (pf := lm_pf9) rfl rfl rfl (fun h => Bool.noConfusion h) (fun _ => rfl) rfl (plainFor_of_name lm_pn9) lm_k_tb9 lm_k_pf9 lm_c239
theorem lm_g240 : lm_goodY lm_W0 lm_cl lm_dfs lm_vts lm_P lm_m240 := lm_good_of (i := 240) (z := (1378, [])) (t := lm_tb9) (ini := false) (pf := lm_pf9) rfl rfl rfl (fun h => Bool.noConfusion h) (fun _ => rfl) rfl (plainFor_of_name lm_pn9) lm_k_tb9 lm_k_pf9 lm_c240
theorem lm_g241 : lm_goodY lm_W0 lm_cl lm_dfs lm_vts lm_P lm_m241 := lm_good_of (i := 241) (z := (1404, [])) (t := lm_tb4) (ini := false) (pf := lm_pf4) rfl rfl rfl (fun h => Bool.noConfusion h) (fun _ => rfl) rfl (plainFor_of_name lm_pn4) lm_k_tb4 lm_k_pf4 lm_c241
theorem lm_g242 : lm_goodY lm_W0 lm_cl lm_dfs lm_vts lm_P lm_m242 := lm_good_of (i := 242) (z := (1418, [])) (t := lm_tb9) (ini := false) (pf := lm_pf9) rfl rfl rfl (fun h => Bool.noConfusion h) (fun _ => rfl) rfl (plainFor_of_name lm_pn9) lm_k_tb9 lm_k_pf9 lm_c242
theorem lm_g243 : lm_goodY lm_W0 lm_cl lm_dfs lm_vts lm_P lm_m243 := lm_good_of (i := 243) (z := (1426, [])) (t := lm_tb9) (ini := false) (pf := lm_pf9) rfl rfl rfl (fun h => Bool.noConfusion h) (fun _ => rfl) rfl (plainFor_of_name lm_pn9) lm_k_tb9 lm_k_pf9 lm_c243
theorem lm_g244 : lm_goodY lm_W0 lm_cl lm_dfs lm_vts lm_P lm_m244 := lm_good_of (i := 244) (z := (1432, [])) (t := lm_tb9) (ini := false) (pf := lm_pf9) rfl rfl rfl (fun h => Bool.noConfusion h) (fun _ => rfl) rfl (plainFor_of_name lm_pn9) lm_k_tb9 lm_k_pf9 lm_c244
theorem lm_g245 : lm_goodY lm_W0 lm_cl lm_dfs lm_vts lm_P lm_m245 := lm_good_of (i := 245) (z := (1441, [])) (t := lm_tb9) (ini := false) (pf := lm_pf9) rfl rfl rfl (fun h => Bool.noConfusion h) (fun _ => rfl) rfl (plainFor_of_name lm_pn9) lm_k_tb9 lm_k_pf9 lm_c245
theorem lm_g246 : lm_goodY lm_W0 lm_cl lm_dfs lm_vts lm_P lm_m246 := lm_good_of (i := 246) (z := (1514, [])) (t := lm_tb9) (ini := false) (pf := lm_pf9) rfl rfl rfl (fun h => Bool.noConfusion h) (fun _ => rfl) rfl (plainFor_of_name lm_pn9) lm_k_tb9 lm_k_pf9 lm_c246
theorem lm_g247 : lm_goodY lm_W0 lm_cl lm_dfs lm_vts lm_P lm_m247 := lm_good_of (i := 247) (z := (2292, [])) (t := lm_tb11) (ini := false) (pf := lm_pf11) rfl rfl rfl (fun h => Bool.noConfusion h) (fun _ => rfl) rfl (plainFor_of_name lm_pn11) lm_k_tb11 lm_k_pf11 lm_c247
theorem lm_g248 : lm_goodY lm_W0 lm_cl lm_dfs lm_vts lm_P lm_m248 := lm_good_of (i := 248) (z := (1518, [])) (t := lm_tb9) (ini := false) (pf := lm_pf9) rfl rfl rfl (fun h => Bool.noConfusion h) (fun _ => rfl) rfl (plainFor_of_name lm_pn9) lm_k_tb9 lm_k_pf9 lm_c248
theorem lm_g249 : lm_goodY lm_W0 lm_cl lm_dfs lm_vts lm_P lm_m249 := lm_good_of (i := 249) (z := (1535, [])) (t := lm_tb9) (ini := false) (pf := lm_pf9) rfl rfl rfl (fun h => Bool.noConfusion h) (fun _ => rfl) rfl (plainFor_of_name lm_pn9) lm_k_tb9 lm_k_pf9 lm_c249
theorem lm_g250 : lm_goodY lm_W0 lm_cl lm_dfs lm_vts lm_P lm_m250 := lm_good_of (i := 250) (z := (1488, [])) (t := lm_tb9) (ini := false) (pf := lm_pf9) rfl rfl rfl (fun h => Bool.noConfusion h) (fun _ => rfl) rfl (plainFor_of_name lm_pn9) lm_k_tb9 lm_k_pf9 lm_c250
theorem lm_g251 : lm_goodY lm_W0 lm_cl lm_dfs lm_vts lm_P lm_m251 := lm_good_of (i := 251) (z := (1449, [])) (t := lm_tb9) (ini := false) (pf := lm_pf9) rfl rfl rfl (fun h => Bool.noConfusion h) (fun _ => rfl) rfl (plainFor_of_name lm_pn9) lm_k_tb9 lm_k_pf9 lm_c251
theorem lm_g252 : lm_goodY lm_W0 lm_cl lm_dfs lm_vts lm_P lm_m252 := lm_good_of (i := 252) (z := (1436, [])) (t := lm_tb9) (ini := false) (pf := lm_pf9) rfl rfl rfl (fun h => Bool.noConfusion h) (fun _ => rfl) rfl (plainFor_of_name lm_pn9) lm_k_tb9 lm_k_pf9 lm_c252
theorem lm_g253 : lm_goodY lm_W0 lm_cl lm_dfs lm_vts lm_P lm_m253 := lm_good_of (i := 253) (z := (1499, [])) (t := lm_tb16) (ini := false) (pf := lm_pf16) rfl rfl rfl (fun h => Bool.noConfusion h) (fun _ => rfl) rfl (by decide +kernel) lm_k_tb16 lm_k_pf16 lm_c253
theorem lm_g254 : lm_goodY lm_W0 lm_cl lm_dfs lm_vts lm_P lm_m254 := lm_good_of (i := 254) (z := (1476, [])) (t := lm_tb9) (ini := false) (pf := lm_pf9) rfl rfl rfl (fun h => Bool.noConfusion h) (fun _ => rfl) rfl (plainFor_of_name lm_pn9) lm_k_tb9 lm_k_pf9 lm_c254
theorem lm_g255 : lm_goodY lm_W0 lm_cl lm_dfs lm_vts lm_P lm_m255 := lm_good_of (i := 255) (z := (1543, [])) (t := lm_tb9) (ini := false) (pf := lm_pf9) rfl rfl rfl (fun h => Bool.noConfusion h) (fun _ => rfl) rfl (plainFor_of_name lm_pn9) lm_k_tb9 lm_k_pf9 lm_c255
theorem lm_g256 : lm_goodY lm_W0 lm_cl lm_dfs lm_vts lm_P lm_m256 := lm_good_of (i := 256) (z := (1547, [])) (t := lm_tb9) (ini := false) (pf := lm_pf9) rfl rfl rfl (fun h => Bool.noConfusion h) (fun _ => rfl) rfl (plainFor_of_name lm_pn9) lm_k_tb9 lm_k_pf9 lm_c256
theorem lm_g257 : lm_goodY lm_W0 lm_cl lm_dfs lm_vts lm_P lm_m257 := lm_good_of (i := 257) (z := (1470, [])) (t := lm_tb9) (ini := false) (pf := lm_pf9) rfl rfl rfl (fun h => Bool.noConfusion h) (fun _ => rfl) rfl (plainFor_of_name lm_pn9) lm_k_tb9 lm_k_pf9 lm_c257
theorem lm_g258 : lm_goodY lm_W0 lm_cl lm_dfs lm_vts lm_P lm_m258 := lm_good_of (i := 258) (z := (1638, [])) (t := lm_tb10) (ini := false) (pf := lm_pf10) rfl rfl rfl (fun h => Bool.noConfusion h) (fun _ => rfl) rfl (plainFor_of_name lm_pn10) lm_k_tb10 lm_k_pf10 lm_c258
theorem lm_g259 : lm_goodY lm_W0 lm_cl lm_dfs lm_vts lm_P lm_m259 := lm_good_of (i := 259) (z := (1645, [])) (t := lm_tb10) (ini := false) (pf := lm_pf10) rfl rfl rfl (fun h => Bool.noConfusion h) (fun _ => rfl) rfl (plainFor_of_name lm_pn10) lm_k_tb10 lm_k_pf10 lm_c259
theorem lm_g260 : lm_goodY lm_W0 lm_cl lm_dfs lm_vts lm_P lm_m260 := lm_good_of (i := 260) (z := (1664, [])) (t := lm_tb10) (ini := false) (pf := lm_pf10) rfl rfl rfl (fun h => Bool.noConfusion h) (fun _ => rfl) rfl (plainFor_of_name lm_pn10) lm_k_tb10 lm_k_pf10 lm_c260
theorem lm_g261 : lm_goodY lm_W0 lm_cl lm_dfs lm_vts lm_P lm_m261 := lm_good_of (i := 261) (z := (1668, [])) (t := lm_tb10) (ini := false) (pf := lm_pf10) rfl rfl rfl (fun h => Bool.noConfusion h) (fun _ => rfl) rfl (plainFor_of_name lm_pn10) lm_k_tb10 lm_k_pf10 lm_c261
theorem lm_g262 : lm_goodY lm_W0 lm_cl lm_dfs lm_vts lm_P lm_m262 := lm_good_of (i := 262) (z := (1672, [])) (t := lm_tb10) (ini := false) (pf := lm_pf10) rfl rfl rfl (fun h => Bool.noConfusion h) (fun _ => rfl) rfl (plainFor_of_name lm_pn10) lm_k_tb10 lm_k_pf10 lm_c262
theorem lm_g263 : lm_goodY lm_W0 lm_cl lm_dfs lm_vts lm_P lm_m263 := lm_good_of (i := 263) (z := (1609, [])) (t := lm_tb10) (ini := false) (pf := lm_pf10) rfl rfl rfl (fun h => Bool.noConfusion h) (fun _ => rfl) rfl (plainFor_of_name lm_pn10) lm_k_tb10 lm_k_pf10 lm_c263
theorem lm_g264 : lm_goodY lm_W0 lm_cl lm_dfs lm_vts lm_P lm_m264 := lm_good_of (i := 264) (z := (1613, [])) (t := lm_tb10) (ini := false) (pf := lm_pf10) rfl rfl rfl (fun h => Bool.noConfusion h) (fun _ => rfl) rfl (plainFor_of_name lm_pn10) lm_k_tb10 lm_k_pf10 lm_c264
theorem lm_g265 : lm_goodY lm_W0 lm_cl lm_dfs lm_vts lm_P lm_m265 := lm_good_of (i := 265) (z := (1676, [])) (t := lm_tb10) (ini := false) (pf := lm_pf10) rfl rfl rfl (fun h => Bool.noConfusion h) (fun _ => rfl) rfl (plainFor_of_name lm_pn10) lm_k_tb10 lm_k_pf10 lm_c265
theorem lm_g266 : lm_goodY lm_W0 lm_cl lm_dfs lm_vts lm_P lm_m266 := lm_good_of (i := 266) (z := (1688, [])) (t := lm_tb10) (ini := false) (pf := lm_pf10) rfl rfl rfl (fun h => Bool.noConfusion h) (fun _ => rfl) rfl (plainFor_of_name lm_pn10) lm_k_tb10 lm_k_pf10 lm_c266
theorem lm_g267 : lm_goodY lm_W0 lm_cl lm_dfs lm_vts lm_P lm_m267 := lm_good_of (i := 267) (z := (1692, [])) (t := lm_tb10) (ini := false) (pf := lm_pf10) rfl rfl rfl (fun h => Bool.noConfusion h) (fun _ => rfl) rfl (plainFor_of_name lm_pn10) lm_k_tb10 lm_k_pf10 lm_c267
theorem lm_g268 : lm_goodY lm_W0 lm_cl lm_dfs lm_vts lm_P lm_m268 := lm_good_of (i := 268) (z := (1700, [])) (t := lm_tb10) (ini := false) (pf := lm_pf10) rfl rfl rfl (fun h => Bool.noConfusion h) (fun _ => rfl) rfl (plainFor_of_name lm_pn10) lm_k_tb10 lm_k_pf10 lm_c268
theorem lm_g269 : lm_goodY lm_W0 lm_cl lm_dfs lm_vts lm_P lm_m269 := lm_good_of (i := 269) (z := (1704, [])) (t := lm_tb10) (ini := false) (pf := lm_pf10) rfl rfl rfl (fun h => Bool.noConfusion h) (fun _ => rfl) rfl (plainFor_of_name lm_pn10) lm_k_tb10 lm_k_pf10 lm_c269
theorem lm_g270 : lm_goodY lm_W0 lm_cl lm_dfs lm_vts lm_P lm_m270 := lm_good_of (i := 270) (z := (1584, [])) (t := lm_tb10) (ini := false) (pf := lm_pf10) rfl rfl rfl (fun h => Bool.noConfusion h) (fun _ => rfl) rfl (plainFor_of_name lm_pn10) lm_k_tb10 lm_k_pf10 lm_c270
theorem lm_g271 : lm_goodY lm_W0 lm_cl lm_dfs lm_vts lm_P lm_m271 := lm_good_of (i := 271) (z := (1605, [])) (t := lm_tb10) (ini := false) (pf := lm_pf10) rfl rfl rfl (fun h => Bool.noConfusion h) (fun _ => rfl) rfl (plainFor_of_name lm_pn10) lm_k_tb10 lm_k_pf10 lm_c271
theorem lm_g272 : lm_goodY lm_W0 lm_cl lm_dfs lm_vts lm_P lm_m272 := lm_good_of (i := 272) (z := (1623, [])) (t := lm_tb10) (ini := false) (pf := lm_pf10) rfl rfl rfl (fun h => Bool.noConfusion h) (fun _ => rfl) rfl (plainFor_of_name lm_pn10) lm_k_tb10 lm_k_pf10 lm_c272
theorem lm_g273 : lm_goodY lm_W0 lm_cl lm_dfs lm_vts lm_P lm_m273 := lm_good_of (i := 273) (z := (244, [])) (t := lm_tb14) (ini := false) (pf := lm_pf14) rfl rfl rfl (fun h => Bool.noConfusion h) (fun _ => rfl) rfl (plainFor_of_name lm_pn14) lm_k_tb14 lm_k_pf14 lm_c273
theorem lm_g274 : lm_goodY lm_W0 lm_cl lm_dfs lm_vts lm_P lm_m274 := lm_good_of (i := 274) (z := (945, [])) (t := lm_tb17) (ini := false) (pf := lm_pf17) rfl rfl rfl (fun h => Bool.noConfusion h) (fun _ => rfl) rfl (plainFor_of_name lm_pn17) lm_k_tb17 lm_k_pf17 lm_c274
theorem lm_g275 : lm_goodY lm_W0 lm_cl lm_dfs lm_vts lm_P lm_m275 := lm_good_of (i := 275) (z := (926, [])) (t := lm_tb3) (ini := false) (pf := lm_pf3) rfl rfl rfl (fun h => Bool.noConfusion h) (fun _ => rfl) rfl (plainFor_of_name lm_pn3) lm_k_tb3 lm_k_pf3 lm_c275
theorem lm_g276 : lm_goodY lm_W0 lm_cl lm_dfs lm_vts lm_P lm_m276 := lm_good_of (i := 276) (z := (969, [])) (t := lm_tb14) (ini := false) (pf := lm_pf14) rfl rfl rfl (fun h => Bool.noConfusion h) (fun _ => rfl) rfl (plainFor_of_name lm_pn14) lm_k_tb14 lm_k_pf14 lm_c276
theorem lm_g277 : lm_goodY lm_W0 lm_cl lm_dfs lm_vts lm_P lm_m277 := lm_good_of (i := 277) (z := (977, [])) (t := lm_tb15) (ini := false) (pf := lm_pf15) rfl rfl rfl (fun h => Bool.noConfusion h) (fun _ => rfl) rfl (plainFor_of_name lm_pn15) lm_k_tb15 lm_k_pf15 lm_c277
theorem lm_g278 : lm_goodY lm_W0 lm_cl lm_dfs lm_vts lm_P lm_m278 := lm_good_of (i := 278) (z := (1072, [])) (t := lm_tb5) (ini := false) (pf := lm_pf5) rfl rfl rfl (fun h => Bool.noConfusion h) (fun _ => rfl) rfl (plainFor_of_name lm_pn5) lm_k_tb5 lm_k_pf5 lm_c278
theorem lm_g279 : lm_goodY lm_W0 lm_cl lm_dfs lm_vts lm_P lm_m279 := lm_good_of (i := 279) (z := (1065, [])) (t := lm_tb6) (ini := false) (pf := lm_pf6) rfl rfl rfl (fun h => Bool.noConfusion h) (fun _ => rfl) rfl (plainFor_of_name lm_pn6) lm_k_tb6 lm_k_pf6 lm_c279
theorem lm_g280 : lm_goodY lm_W0 lm_cl lm_dfs lm_vts lm_P lm_m280 := lm_good_of (i := 280) (z := (1069, [])) (t := lm_tb7) (ini := false) (pf := lm_pf7) rfl rfl rfl (fun h => Bool.noConfusion h) (fun _ => rfl) rfl (plainFor_of_name lm_pn7) lm_k_tb7 lm_k_pf7 lm_c280
theorem lm_g281 : lm_goodY lm_W0 lm_cl lm_dfs lm_vts lm_P lm_m281 := lm_good_of (i := 281) (z := (1093, [])) (t := lm_tb5) (ini := false) (pf := lm_pf5) rfl rfl rfl (fun h => Bool.noConfusion h) (fun _ => rfl) rfl (plainFor_of_name lm_pn5) lm_k_tb5 lm_k_pf5 lm_c281
theorem lm_g282 : lm_goodY lm_W0 lm_cl lm_dfs lm_vts lm_P lm_m282 := lm_good_of (i := 282) (z := (1087, [])) (t := lm_tb6) (ini := false) (pf := lm_pf6) rfl rfl rfl (fun h => Bool.noConfusion h) (fun _ => rfl) rfl (plainFor_of_name lm_pn6) lm_k_tb6 lm_k_pf6 lm_c282
theorem lm_g283 : lm_goodY lm_W0 lm_cl lm_dfs lm_vts lm_P lm_m283 := lm_good_of (i := 283) (z := (1090, [])) (t := lm_tb7) (ini := false) (pf := lm_pf7) rfl rfl rfl (fun h => Bool.noConfusion h) (fun _ => rfl) rfl (plainFor_of_name lm_pn7) lm_k_tb7 lm_k_pf7 lm_c283
theorem lm_g284 : lm_goodY lm_W0 lm_cl lm_dfs lm_vts lm_P lm_m284 := lm_good_of (i := 284) (z := (989, [])) (t := lm_tb15) (ini := false) (pf := lm_pf15) rfl rfl rfl (fun h => Bool.noConfusion h) (fun _ => rfl) rfl (plainFor_of_name lm_pn15) lm_k_tb15 lm_k_pf15 lm_c284
theorem lm_g285 : lm_goodY lm_W0 lm_cl lm_dfs lm_vts lm_P lm_m285 := lm_good_of (i := 285) (z := (1147, [])) (t := lm_tb8) (ini := false) (pf := lm_pf8) rfl rfl rfl (fun h => Bool.noConfusion h) (fun _ => rfl) rfl (plainFor_of_name lm_pn8) lm_k_tb8 lm_k_pf8 lm_c285
theorem lm_g286 : lm_goodY lm_W0 lm_cl lm_dfs lm_vts lm_P lm_m286 := lm_good_of (i := 286) (z := (1187, [])) (t := lm_tb16) (ini := false) (pf := lm_pf16) rfl rfl rfl (fun h => Bool.noConfusion h) (fun _ => rfl) rfl (by decide +kernel) lm_k_tb16 lm_k_pf16 lm_c286
theorem lm_g287 : lm_goodY lm_W0 lm_cl lm_dfs lm_vts lm_P lm_m287 := lm_good_of (i := 287) (z := (1247, [])) (t := lm_tb17) (ini := false) (pf := lm_pf17) rfl rfl rfl (fun h => Bool.noConfusion h) (fun _ => rfl) rfl (plainFor_of_name lm_pn17) lm_k_tb17 lm_k_pf17 lm_c287
theorem lm_g288 : lm_goodY lm_W0 lm_cl lm_dfs lm_vts lm_P lm_m288 := lm_good_of (i := 288) (z := (1251, [])) (t := lm_tb8) (ini := false) (pf := lm_pf8) rfl rfl rfl (fun h => Bool.noConfusion h) (fun _ => rfl) rfl (plainFor_of_name lm_pn8) lm_k_tb8 lm_k_pf8 lm_c288
theorem lm_g289 : lm_goodY lm_W0 lm_cl lm_dfs lm_vts lm_P lm_m289 := lm_good_of (i := 289) (z := (1258, [])) (t := lm_tb8) (ini := false) (pf := lm_pf8) rfl rfl rfl (fun h => Bool.noConfusion h) (fun _ => rfl) rfl (plainFor_of_name lm_pn8) lm_k_tb8 lm_k_pf8 lm_c289
theorem lm_g290 : lm_goodY lm_W0 lm_cl lm_dfs lm_vts lm_P lm_m290 := lm_good_of (i := 290) (z := (1255, [])) (t := lm_tb8) (ini := false) (pf := lm_pf8) rfl rfl rfl (fun h => Bool.noConfusion h) (fun _ => rfl) rfl (plainFor_of_name lm_pn8) lm_k_tb8 lm_k_pf8 lm_c290
theorem lm_g291 : lm_goodY lm_W0 lm_cl lm_dfs lm_vts lm_P lm_m291 := lm_good_of (i := 291) (z := (1261, [])) (t := lm_tb8) (ini := false) (pf := lm_pf8) rfl rfl rfl (fun h => Bool.noConfusion h) (fun _ => rfl) rfl (plainFor_of_name lm_pn8) lm_k_tb8 lm_k_pf8 lm_c291
theorem lm_g292 : lm_goodY lm_W0 lm_cl lm_dfs lm_vts lm_P lm_m292 := lm_good_of (i := 292) (z := (1325, [])) (t := lm_tb9) (ini := false) (pf := lm_pf9) rfl rfl rfl (fun h => Bool.noConfusion h) (fun _ => rfl) rfl (plainFor_of_name lm_pn9) lm_k_tb9 lm_k_pf9 lm_c292
theorem lm_g293 : lm_goodY lm_W0 lm_cl lm_dfs lm_vts lm_P lm_m293 := lm_good_of (i := 293) (z := (1157, [])) (t := lm_tb5) (ini := false) (pf := lm_pf5) rfl rfl rfl (fun h => Bool.noConfusion h) (fun _ => rfl) rfl (plainFor_of_name lm_pn5) lm_k_tb5 lm_k_pf5 lm_c293
theorem lm_g294 : lm_goodY lm_W0 lm_cl lm_dfs lm_vts lm_P lm_m294 := lm_good_of (i := 294) (z := (1365, [])) (t := lm_tb16) (ini := false) (pf := lm_pf16) rfl rfl rfl (fun h => Bool.noConfusion h) (fun _ => rfl) rfl (by decide +kernel) lm_k_tb16 lm_k_pf16 lm_c294
theorem lm_g295 : lm_goodY lm_W0 lm_cl lm_dfs lm_vts lm_P lm_m295 := lm_good_of (i := 295) (z := (1422, [])) (t := lm_tb4) (ini := false) (pf := lm_pf4) rfl rfl rfl (fun h => Bool.noConfusion h) (fun _ => rfl) rfl (plainFor_of_name lm_pn4) lm_k_tb4 lm_k_pf4 lm_c295
theorem lm_g296 : lm_goodY lm_W0 lm_cl lm_dfs lm_vts lm_P lm_m296 := lm_good_of (i := 296) (z := (1445, [])) (t := lm_tb9) (ini := false) (pf := lm_pf9) rfl rfl rfl (fun h => Bool.noConfusion h) (fun _ => rfl) rfl (plainFor_of_name lm_pn9) lm_k_tb9 lm_k_pf9 lm_c296
theorem lm_g297 : lm_goodY lm_W0 lm_cl lm_dfs lm_vts lm_P lm_m297 := lm_good_of (i := 297) (z := (1455, [])) (t := lm_tb9) (ini := false) (pf := lm_pf9) rfl rfl rfl (fun h => Bool.noConfusion h) (fun _ => rfl) rfl (plainFor_of_name lm_pn9) lm_k_tb9 lm_k_pf9 lm_c297
theorem lm_g298 : lm_goodY lm_W0 lm_cl lm_dfs lm_vts lm_P lm_m298 := lm_good_of (i := 298) (z := (1484, [])) (t := lm_tb9) (ini := false) (pf := lm_pf9) rfl rfl rfl (fun h => Bool.noConfusion h) (fun _ => rfl) rfl (plainFor_of_name lm_pn9) lm_k_tb9 lm_k_pf9 lm_c298
theorem lm_g299 : lm_goodY lm_W0 lm_cl lm_dfs lm_vts lm_P lm_m299 := lm_good_of (i := 299) (z := (1503, [])) (t := lm_tb9) (ini := false) (pf := lm_pf9) rfl rfl rfl (fun h => Bool.noConfusion h) (fun _ => rfl) rfl (plainFor_of_name lm_pn9) lm_k_tb9 lm_k_pf9 lm_c299
theorem lm_g300 : lm_goodY lm_W0 lm_cl lm_dfs lm_vts lm_P lm_m300 := lm_good_of (i := 300) (z := (1507, [])) (t := lm_tb9) (ini := false) (pf := lm_pf9) rfl rfl rfl (fun h => Bool.noConfusion h) (fun _ => rfl) rfl (plainFor_of_name lm_pn9) lm_k_tb9 lm_k_pf9 lm_c300
theorem lm_g301 : lm_goodY lm_W0 lm_cl lm_dfs lm_vts lm_P lm_m301 := lm_good_of (i := 301) (z := (1459, [])) (t := lm_tb9) (ini := false) (pf := lm_pf9) rfl rfl rfl (fun h => Bool.noConfusion h) (fun _ => rfl) rfl (plainFor_of_name lm_pn9) lm_k_tb9 lm_k_pf9 lm_c301
theorem lm_g302 : lm_goodY lm_W0 lm_cl lm_dfs lm_vts lm_P lm_m302 := lm_good_of (i := 302) (z := (1463, [])) (t := lm_tb9) (ini := false) (pf := lm_pf9) rfl rfl rfl (fun h => Bool.noConfusion h) (fun _ => rfl) rfl (plainFor_of_name lm_pn9) lm_k_tb9 lm_k_pf9 lm_c302
theorem lm_g303 : lm_goodY lm_W0 lm_cl lm_dfs lm_vts lm_P lm_m303 := lm_good_of (i := 303) (z := (1649, [])) (t := lm_tb10) (ini := false) (pf := lm_pf10) rfl rfl rfl (fun h => Bool.noConfusion h) (fun _ => rfl) rfl (plainFor_of_name lm_pn10) lm_k_tb10 lm_k_pf10 lm_c303
theorem lm_g304 : lm_goodY lm_W0 lm_cl lm_dfs lm_vts lm_P lm_m304 := lm_good_of (i := 304) (z := (1653, [])) (t := lm_tb10) (ini := false) (pf := lm_pf10) rfl rfl rfl (fun h => Bool.noConfusion h) (fun _ => rfl) rfl (plainFor_of_name lm_pn10) lm_k_tb10 lm_k_pf10 lm_c304
theorem lm_g305 : lm_goodY lm_W0 lm_cl lm_dfs lm_vts lm_P lm_m305 := lm_good_of (i := 305) (z := (1680, [])) (t := lm_tb10) (ini := false) (pf := lm_pf10) rfl rfl rfl (fun h => Bool.noConfusion h) (fun _ => rfl) rfl (plainFor_of_name lm_pn10) lm_k_tb10 lm_k_pf10 lm_c305
theorem lm_g306 : lm_goodY lm_W0 lm_cl lm_dfs lm_vts lm_P lm_m306 := lm_good_of (i := 306) (z := (1696, [])) (t := lm_tb10) (ini := false) (pf := lm_pf10) rfl rfl rfl (fun h => Bool.noConfusion h) (fun _ => rfl) rfl (plainFor_of_name lm_pn10) lm_k_tb10 lm_k_pf10 lm_c306
theorem lm_g307 : lm_goodY lm_W0 lm_cl lm_dfs lm_vts lm_P lm_m307 := lm_good_of (i := 307) (z := (1619, [])) (t := lm_tb10) (ini := false) (pf := lm_pf10) rfl rfl rfl (fun h => Bool.noConfusion h) (fun _ => rfl) rfl (plainFor_of_name lm_pn10) lm_k_tb10 lm_k_pf10 lm_c307
theorem lm_g308 : lm_goodY lm_W0 lm_cl lm_dfs lm_vts lm_P lm_m308 := lm_good_of (i := 308) (z := (1588, [])) (t := lm_tb10) (ini := false) (pf := lm_pf10) rfl rfl rfl (fun h => Bool.noConfusion h) (fun _ => rfl) rfl (plainFor_of_name lm_pn10) lm_k_tb10 lm_k_pf10 lm_c308
theorem lm_g309 : lm_goodY lm_W0 lm_cl lm_dfs lm_vts lm_P lm_m309 := lm_good_of (i := 309) (z := (1492, [])) (t := lm_tb9) (ini := false) (pf := lm_pf9) rfl rfl rfl (fun h => Bool.noConfusion h) (fun _ => rfl) rfl (plainFor_of_name lm_pn9) lm_k_tb9 lm_k_pf9 lm_c309
theorem lm_g310 : lm_goodY lm_W0 lm_cl lm_dfs lm_vts lm_P lm_m310 := lm_good_of (i := 310) (z := (1495, [])) (t := lm_tb9) (ini := false) (pf := lm_pf9) rfl rfl rfl (fun h => Bool.noConfusion h) (fun _ => rfl) rfl (plainFor_of_name lm_pn9) lm_k_tb9 lm_k_pf9 lm_c310
set_option maxRecDepth 100000 in
theorem lm_good_mem : ∀ Y ∈ lm_P, lm_goodY lm_W0 lm_cl lm_dfs lm_vts lm_P Y := by
  unfold lm_P
  refine List.forall_mem_cons.mpr ⟨lm_g0, ?_⟩
  refine List.forall_mem_cons.mpr ⟨lm_g1, ?_⟩
  refine List.forall_mem_cons.mpr ⟨lm_g2, ?_⟩
  refine List.forall_mem_cons.mpr ⟨lm_g3, ?_⟩
  refine List.forall_mem_cons.mpr ⟨lm_g4, ?_⟩
  refine List.forall_mem_cons.mpr ⟨lm_g5, ?_⟩
  refine List.forall_mem_cons.mpr ⟨lm_g6, ?_⟩
  refine List.forall_mem_cons.mpr ⟨lm_g7, ?_⟩
  refine List.forall_mem_cons.mpr ⟨lm_g8, ?_⟩
  refine List.forall_mem_cons.mpr ⟨lm_g9, ?_⟩
  refine List.forall_mem_cons.mpr ⟨lm_g10, ?_⟩
  refine List.forall_mem_cons.mpr ⟨lm_g11, ?_⟩
  refine List.forall_mem_cons.mpr ⟨lm_g12, ?_⟩
  refine List.forall_mem_cons.mpr ⟨lm_g13, ?_⟩
  refine List.forall_mem_cons.mpr ⟨lm_g14, ?_⟩
  refine List.forall_mem_cons.mpr ⟨lm_g15, ?_⟩
  refine List.forall_mem_cons.mpr ⟨lm_g16, ?_⟩
  refine List.forall_mem_cons.mpr ⟨lm_g17, ?_⟩
  refine List.forall_mem_cons.mpr ⟨lm_g18, ?_⟩
  refine List.forall_mem_cons.mpr ⟨lm_g19, ?_⟩
  refine List.forall_mem_cons.mpr ⟨lm_g20, ?_⟩
  refine List.forall_mem_cons.mpr ⟨lm_g21, ?_⟩
  refine List.forall_mem_cons.mpr ⟨lm_g22, ?_⟩
  refine List.forall_mem_cons.mpr ⟨lm_g23, ?_⟩
  refine List.forall_mem_cons.mpr ⟨lm_g24, ?_⟩
  refine List.forall_mem_cons.mpr ⟨lm_g25, ?_⟩
  refine List.forall_mem_cons.mpr ⟨lm_g26, ?_⟩
  refine List.forall_mem_cons.mpr ⟨lm_g27, ?_⟩
  refine List.forall_mem_cons.mpr ⟨lm_g28, ?_⟩
  refine List.forall_mem_cons.mpr ⟨lm_g29, ?_⟩
  refine List.forall_mem_cons.mpr ⟨lm_g30, ?_⟩
  refine List.forall_mem_cons.mpr ⟨lm_g31, ?_⟩
  refine List.forall_mem_cons.mpr ⟨lm_g32, ?_⟩
  refine List.forall_mem_cons.mpr ⟨lm_g33, ?_⟩
  refine List.forall_mem_cons.mpr ⟨lm_g34, ?_⟩
  refine List.forall_mem_cons.mpr ⟨lm_g35, ?_⟩
  refine List.forall_mem_cons.mpr ⟨lm_g36, ?_⟩
  refine List.forall_mem_cons.mpr ⟨lm_g37, ?_⟩
  refine List.forall_mem_cons.mpr ⟨lm_g38, ?_⟩
  refine List.forall_mem_cons.mpr ⟨lm_g39, ?_⟩
  refine List.forall_mem_cons.mpr ⟨lm_g40, ?_⟩
  refine List.forall_mem_cons.mpr ⟨lm_g41, ?_⟩
  refine List.forall_mem_cons.mpr ⟨lm_g42, ?_⟩
  refine List.forall_mem_cons.mpr ⟨lm_g43, ?_⟩
  refine List.forall_mem_cons.mpr ⟨lm_g44, ?_⟩
  refine List.forall_mem_cons.mpr ⟨lm_g45, ?_⟩
  refine List.forall_mem_cons.mpr ⟨lm_g46, ?_⟩
  refine List.forall_mem_cons.mpr ⟨lm_g47, ?_⟩
  refine List.forall_mem_cons.mpr ⟨lm_g48, ?_⟩
  refine List.forall_mem_cons.mpr ⟨lm_g49, ?_⟩
  refine List.forall_mem_cons.mpr ⟨lm_g50, ?_⟩
  refine List.forall_mem_cons.mpr ⟨lm_g51, ?_⟩
  refine List.forall_mem_cons.mpr ⟨lm_g52, ?_⟩
  refine List.forall_mem_cons.mpr ⟨lm_g53, ?_⟩
  refine List.forall_mem_cons.mpr ⟨lm_g54, ?_⟩
  refine List.forall_mem_cons.mpr ⟨lm_g55, ?_⟩
  refine List.forall_mem_cons.mpr ⟨lm_g56, ?_⟩
  refine List.forall_mem_cons.mpr ⟨lm_g57, ?_⟩
  refine List.forall_mem_cons.mpr ⟨lm_g58, ?_⟩
  refine List.forall_mem_cons.mpr ⟨lm_g59, ?_⟩
  refine List.forall_mem_cons.mpr ⟨lm_g60, ?_⟩
  refine List.forall_mem_cons.mpr ⟨lm_g61, ?_⟩
  refine List.forall_mem_cons.mpr ⟨lm_g62, ?_⟩
  refine List.forall_mem_cons.mpr ⟨lm_g63, ?_⟩
  refine List.forall_mem_cons.mpr ⟨lm_g64, ?_⟩
  refine List.forall_mem_cons.mpr ⟨lm_g65, ?_⟩
  refine List.forall_mem_cons.mpr ⟨lm_g66, ?_⟩
  refine List.forall_mem_cons.mpr ⟨lm_g67, ?_⟩
  refine List.forall_mem_cons.mpr ⟨lm_g68, ?_⟩
  refine List.forall_mem_cons.mpr ⟨lm_g69, ?_⟩
  refine List.forall_mem_cons.mpr ⟨lm_g70, ?_⟩
  refine List.forall_mem_cons.mpr ⟨lm_g71, ?_⟩
  refine List.forall_mem_cons.mpr ⟨lm_g72, ?_⟩
  refine List.forall_mem_cons.mpr ⟨lm_g73, ?_⟩
  refine List.forall_mem_cons.mpr ⟨lm_g74, ?_⟩
  refine List.forall_mem_cons.mpr ⟨lm_g75, ?_⟩
  refine List.forall_mem_cons.mpr ⟨lm_g76, ?_⟩
  refine List.forall_mem_cons.mpr ⟨lm_g77, ?_⟩
  refine List.forall_mem_cons.mpr ⟨lm_g78, ?_⟩
  refine List.forall_mem_cons.mpr ⟨lm_g79, ?_⟩
  refine List.forall_mem_cons.mpr ⟨lm_g80, ?_⟩
  refine List.forall_mem_cons.mpr ⟨lm_g81, ?_⟩
  refine List.forall_mem_cons.mpr ⟨lm_g82, ?_⟩
  refine List.forall_mem_cons.mpr ⟨lm_g83, ?_⟩
  refine List.forall_mem_cons.mpr ⟨lm_g84, ?_⟩
  refine List.forall_mem_cons.mpr ⟨lm_g85, ?_⟩
  refine List.forall_mem_cons.mpr ⟨lm_g86, ?_⟩
  refine List.forall_mem_cons.mpr ⟨lm_g87, ?_⟩
  refine List.forall_mem_cons.mpr ⟨lm_g88, ?_⟩
  refine List.forall_mem_cons.mpr ⟨lm_g89, ?_⟩
  refine List.forall_mem_cons.mpr ⟨lm_g90, ?_⟩
  refine List.forall_mem_cons.mpr ⟨lm_g91, ?_⟩
  refine List.forall_mem_cons.mpr ⟨lm_g92, ?_⟩
  refine List.forall_mem_cons.mpr ⟨lm_g93, ?_⟩
  refine List.forall_mem_cons.mpr ⟨lm_g94, ?_⟩
  refine List.forall_mem_cons.mpr ⟨lm_g95, ?_⟩
  refine List.forall_mem_cons.mpr ⟨lm_g96, ?_⟩
  refine List.forall_mem_cons.mpr ⟨lm_g97, ?_⟩
  refine List.forall_mem_cons.mpr ⟨lm_g98, ?_⟩
  refine List.forall_mem_cons.mpr ⟨lm_g99, ?_⟩
  refine List.forall_mem_cons.mpr ⟨lm_g100, ?_⟩
  refine List.forall_mem_cons.mpr ⟨lm_g101, ?_⟩
  refine List.forall_mem_cons.mpr ⟨lm_g102, ?_⟩
  refine List.forall_mem_cons.mpr ⟨lm_g103, ?_⟩
  refine List.forall_mem_cons.mpr ⟨lm_g104, ?_⟩
  refine List.forall_mem_cons.mpr ⟨lm_g105, ?_⟩
  refine List.forall_mem_cons.mpr ⟨lm_g106, ?_⟩
  refine List.forall_mem_cons.mpr ⟨lm_g107, ?_⟩
  refine List.forall_mem_cons.mpr ⟨lm_g108, ?_⟩
  refine List.forall_mem_cons.mpr ⟨lm_g109, ?_⟩
  refine List.forall_mem_cons.mpr ⟨lm_g110, ?_⟩
  refine List.forall_mem_cons.mpr ⟨lm_g111, ?_⟩
  refine List.forall_mem_cons.mpr ⟨lm_g112, ?_⟩
  refine List.forall_mem_cons.mpr ⟨lm_g113, ?_⟩
  refine List.forall_mem_cons.mpr ⟨lm_g114, ?_⟩
  refine List.forall_mem_cons.mpr ⟨lm_g115, ?_⟩
  refine List.forall_mem_cons.mpr ⟨lm_g116, ?_⟩
  refine List.forall_mem_cons.mpr ⟨lm_g117, ?_⟩
  refine List.forall_mem_cons.mpr ⟨lm_g118, ?_⟩
  refine List.forall_mem_cons.mpr ⟨lm_g119, ?_⟩
  refine List.forall_mem_cons.mpr ⟨lm_g120, ?_⟩
  refine List.forall_mem_cons.mpr ⟨lm_g121, ?_⟩
  refine List.forall_mem_cons.mpr ⟨lm_g122, ?_⟩
  refine List.forall_mem_cons.mpr ⟨lm_g123, ?_⟩
  refine List.forall_mem_cons.mpr ⟨lm_g124, ?_⟩
  refine List.forall_mem_cons.mpr ⟨lm_g125, ?_⟩
  refine List.forall_mem_cons.mpr ⟨lm_g126, ?_⟩
  refine List.forall_mem_cons.mpr ⟨lm_g127, ?_⟩
  refine List.forall_mem_cons.mpr ⟨lm_g128, ?_⟩
  refine List.forall_mem_cons.mpr ⟨lm_g129, ?_⟩
  refine List.forall_mem_cons.mpr ⟨lm_g130, ?_⟩
  refine List.forall_mem_cons.mpr ⟨lm_g131, ?_⟩
  refine List.forall_mem_cons.mpr ⟨lm_g132, ?_⟩
  refine List.forall_mem_cons.mpr ⟨lm_g133, ?_⟩
  refine List.forall_mem_cons.mpr ⟨lm_g134, ?_⟩
  refine List.forall_mem_cons.mpr ⟨lm_g135, ?_⟩
  refine List.forall_mem_cons.mpr ⟨lm_g136, ?_⟩
  refine List.forall_mem_cons.mpr ⟨lm_g137, ?_⟩
  refine List.forall_mem_cons.mpr ⟨lm_g138, ?_⟩
  refine List.forall_mem_cons.mpr ⟨lm_g139, ?_⟩
  refine List.forall_mem_cons.mpr ⟨lm_g140, ?_⟩
  refine List.forall_mem_cons.mpr ⟨lm_g141, ?_⟩
  refine List.forall_mem_cons.mpr ⟨lm_g142, ?_⟩
  refine List.forall_mem_cons.mpr ⟨lm_g143, ?_⟩
  refine List.forall_mem_cons.mpr ⟨lm_g144, ?_⟩
  refine List.forall_mem_cons.mpr ⟨lm_g145, ?_⟩
  refine List.forall_mem_cons.mpr ⟨lm_g146, ?_⟩
  refine List.forall_mem_cons.mpr ⟨lm_g147, ?_⟩
  refine List.forall_mem_cons.mpr ⟨lm_g148, ?_⟩
  refine List.forall_mem_cons.mpr ⟨lm_g149, ?_⟩
  refine List.forall_mem_cons.mpr ⟨lm_g150, ?_⟩
  refine List.forall_mem_cons.mpr ⟨lm_g151, ?_⟩
  refine List.forall_mem_cons.mpr ⟨lm_g152, ?_⟩
  refine List.forall_mem_cons.mpr ⟨lm_g153, ?_⟩
  refine List.forall_mem_cons.mpr ⟨lm_g154, ?_⟩
  refine List.forall_mem_cons.mpr ⟨lm_g155, ?_⟩
  refine List.forall_mem_cons.mpr ⟨lm_g156, ?_⟩
  refine List.forall_mem_cons.mpr ⟨lm_g157, ?_⟩
  refine List.forall_mem_cons.mpr ⟨lm_g158, ?_⟩
  refine List.forall_mem_cons.mpr ⟨lm_g159, ?_⟩
  refine List.forall_mem_cons.mpr ⟨lm_g160, ?_⟩
  refine List.forall_mem_cons.mpr ⟨lm_g161, ?_⟩
  refine List.forall_mem_cons.mpr ⟨lm_g162, ?_⟩
  refine List.forall_mem_cons.mpr ⟨lm_g163, ?_⟩
  refine List.forall_mem_cons.mpr ⟨lm_g164, ?_⟩
  refine List.forall_mem_cons.mpr ⟨lm_g165, ?_⟩
  refine List.forall_mem_cons.mpr ⟨lm_g166, ?_⟩
  refine List.forall_mem_cons.mpr ⟨lm_g167, ?_⟩
  refine List.forall_mem_cons.mpr ⟨lm_g168, ?_⟩
  refine List.forall_mem_cons.mpr ⟨lm_g169, ?_⟩
  refine List.forall_mem_cons.mpr ⟨lm_g170, ?_⟩
  refine List.forall_mem_cons.mpr ⟨lm_g171, ?_⟩
  refine List.forall_mem_cons.mpr ⟨lm_g172, ?_⟩
  refine List.forall_mem_cons.mpr ⟨lm_g173, ?_⟩
  refine List.forall_mem_cons.mpr ⟨lm_g174, ?_⟩
  refine List.forall_mem_cons.mpr ⟨lm_g175, ?_⟩
  refine List.forall_mem_cons.mpr ⟨lm_g176, ?_⟩
  refine List.forall_mem_cons.mpr ⟨lm_g177, ?_⟩
  refine List.forall_mem_cons.mpr ⟨lm_g178, ?_⟩
  refine List.forall_mem_cons.mpr ⟨lm_g179, ?_⟩
  refine List.forall_mem_cons.mpr ⟨lm_g180, ?_⟩
  refine List.forall_mem_cons.mpr ⟨lm_g181, ?_⟩
  refine List.forall_mem_cons.mpr ⟨lm_g182, ?_⟩
  refine List.forall_mem_cons.mpr ⟨lm_g183, ?_⟩
  refine List.forall_mem_cons.mpr ⟨lm_g184, ?_⟩
  refine List.forall_mem_cons.mpr ⟨lm_g185, ?_⟩
  refine List.forall_mem_cons.mpr ⟨lm_g186, ?_⟩
  refine List.forall_mem_cons.mpr ⟨lm_g187, ?_⟩
  refine List.forall_mem_cons.mpr ⟨lm_g188, ?_⟩
  refine List.forall_mem_cons.mpr ⟨lm_g189, ?_⟩
  refine List.forall_mem_cons.mpr ⟨lm_g190, ?_⟩
  refine List.forall_mem_cons.mpr ⟨lm_g191, ?_⟩
  refine List.forall_mem_cons.mpr ⟨lm_g192, ?_⟩
  refine List.forall_mem_cons.mpr ⟨lm_g193, ?_⟩
  refine List.forall_mem_cons.mpr ⟨lm_g194, ?_⟩
  refine List.forall_mem_cons.mpr ⟨lm_g195, ?_⟩
  refine List.forall_mem_cons.mpr ⟨lm_g196, ?_⟩
  refine List.forall_mem_cons.mpr ⟨lm_g197, ?_⟩
  refine List.forall_mem_cons.mpr ⟨lm_g198, ?_⟩
  refine List.forall_mem_cons.mpr ⟨lm_g199, ?_⟩
  refine List.forall_mem_cons.mpr ⟨lm_g200, ?_⟩
  refine List.forall_mem_cons.mpr ⟨lm_g201, ?_⟩
  refine List.forall_mem_cons.mpr ⟨lm_g202, ?_⟩
  refine List.forall_mem_cons.mpr ⟨lm_g203, ?_⟩
  refine List.forall_mem_cons.mpr ⟨lm_g204, ?_⟩
  refine List.forall_mem_cons.mpr ⟨lm_g205, ?_⟩
  refine List.forall_mem_cons.mpr ⟨lm_g206, ?_⟩
  refine List.forall_mem_cons.mpr ⟨lm_g207, ?_⟩
  refine List.forall_mem_cons.mpr ⟨lm_g208, ?_⟩
  refine List.forall_mem_cons.mpr ⟨lm_g209, ?_⟩
  refine List.forall_mem_cons.mpr ⟨lm_g210, ?_⟩
  refine List.forall_mem_cons.mpr ⟨lm_g211, ?_⟩
  refine List.forall_mem_cons.mpr ⟨lm_g212, ?_⟩
  refine List.forall_mem_cons.mpr ⟨lm_g213, ?_⟩
  refine List.forall_mem_cons.mpr ⟨lm_g214, ?_⟩
  refine List.forall_mem_cons.mpr ⟨lm_g215, ?_⟩
  refine List.forall_mem_cons.mpr ⟨lm_g216, ?_⟩
  refine List.forall_mem_cons.mpr ⟨lm_g217, ?_⟩
  refine List.forall_mem_cons.mpr ⟨lm_g218, ?_⟩
  refine List.forall_mem_cons.mpr ⟨lm_g219, ?_⟩
  refine List.forall_mem_cons.mpr ⟨lm_g220, ?_⟩
  refine List.forall_mem_cons.mpr ⟨lm_g221, ?_⟩
  refine List.forall_mem_cons.mpr ⟨lm_g222, ?_⟩
  refine List.forall_mem_cons.mpr ⟨lm_g223, ?_⟩
  refine List.forall_mem_cons.mpr ⟨lm_g224, ?_⟩
  refine List.forall_mem_cons.mpr ⟨lm_g225, ?_⟩
  refine List.forall_mem_cons.mpr ⟨lm_g226, ?_⟩
  refine List.forall_mem_cons.mpr ⟨lm_g227, ?_⟩
  refine List.forall_mem_cons.mpr ⟨lm_g228, ?_⟩
  refine List.forall_mem_cons.mpr ⟨lm_g229, ?_⟩
  refine List.forall_mem_cons.mpr ⟨lm_g230, ?_⟩
  refine List.forall_mem_cons.mpr ⟨lm_g231, ?_⟩
  refine List.forall_mem_cons.mpr ⟨lm_g232, ?_⟩
  refine List.forall_mem_cons.mpr ⟨lm_g233, ?_⟩
  refine List.forall_mem_cons.mpr ⟨lm_g234, ?_⟩
  refine List.forall_mem_cons.mpr ⟨lm_g235, ?_⟩
  refine List.forall_mem_cons.mpr ⟨lm_g236, ?_⟩
  refine List.forall_mem_cons.mpr ⟨lm_g237, ?_⟩
  refine List.forall_mem_cons.mpr ⟨lm_g238, ?_⟩
  refine List.forall_mem_cons.mpr ⟨lm_g239, ?_⟩
  refine List.forall_mem_cons.mpr ⟨lm_g240, ?_⟩
  refine List.forall_mem_cons.mpr ⟨lm_g241, ?_⟩
  refine List.forall_mem_cons.mpr ⟨lm_g242, ?_⟩
  refine List.forall_mem_cons.mpr ⟨lm_g243, ?_⟩
  refine List.forall_mem_cons.mpr ⟨lm_g244, ?_⟩
  refine List.forall_mem_cons.mpr ⟨lm_g245, ?_⟩
  refine List.forall_mem_cons.mpr ⟨lm_g246, ?_⟩
  refine List.forall_mem_cons.mpr ⟨lm_g247, ?_⟩
  refine List.forall_mem_cons.mpr ⟨lm_g248, ?_⟩
  refine List.forall_mem_cons.mpr ⟨lm_g249, ?_⟩
  refine List.forall_mem_cons.mpr ⟨lm_g250, ?_⟩
  refine List.forall_mem_cons.mpr ⟨lm_g251, ?_⟩
  refine List.forall_mem_cons.mpr ⟨lm_g252, ?_⟩
  refine List.forall_mem_cons.mpr ⟨lm_g253, ?_⟩
  refine List.forall_mem_cons.mpr ⟨lm_g254, ?_⟩
  refine List.forall_mem_cons.mpr ⟨lm_g255, ?_⟩
  refine List.forall_mem_cons.mpr ⟨lm_g256, ?_⟩
  refine List.forall_mem_cons.mpr ⟨lm_g257, ?_⟩
  refine List.forall_mem_cons.mpr ⟨lm_g258, ?_⟩
  refine List.forall_mem_cons.mpr ⟨lm_g259, ?_⟩
  refine List.forall_mem_cons.mpr ⟨lm_g260, ?_⟩
  refine List.forall_mem_cons.mpr ⟨lm_g261, ?_⟩
  refine List.forall_mem_cons.mpr ⟨lm_g262, ?_⟩
  refine List.forall_mem_cons.mpr ⟨lm_g263, ?_⟩
  refine List.forall_mem_cons.mpr ⟨lm_g264, ?_⟩
  refine List.forall_mem_cons.mpr ⟨lm_g265, ?_⟩
  refine List.forall_mem_cons.mpr ⟨lm_g266, ?_⟩
  refine List.forall_mem_cons.mpr ⟨lm_g267, ?_⟩
  refine List.forall_mem_cons.mpr ⟨lm_g268, ?_⟩
  refine List.forall_mem_cons.mpr ⟨lm_g269, ?_⟩
  refine List.forall_mem_cons.mpr ⟨lm_g270, ?_⟩
  refine List.forall_mem_cons.mpr ⟨lm_g271, ?_⟩
  refine List.forall_mem_cons.mpr ⟨lm_g272, ?_⟩
  refine List.forall_mem_cons.mpr ⟨lm_g273, ?_⟩
  refine List.forall_mem_cons.mpr ⟨lm_g274, ?_⟩
  refine List.forall_mem_cons.mpr ⟨lm_g275, ?_⟩
  refine List.forall_mem_cons.mpr ⟨lm_g276, ?_⟩
  refine List.forall_mem_cons.mpr ⟨lm_g277, ?_⟩
  refine List.forall_mem_cons.mpr ⟨lm_g278, ?_⟩
  refine List.forall_mem_cons.mpr ⟨lm_g279, ?_⟩
  refine List.forall_mem_cons.mpr ⟨lm_g280, ?_⟩
  refine List.forall_mem_cons.mpr ⟨lm_g281, ?_⟩
  refine List.forall_mem_cons.mpr ⟨lm_g282, ?_⟩
  refine List.forall_mem_cons.mpr ⟨lm_g283, ?_⟩
  refine List.forall_mem_cons.mpr ⟨lm_g284, ?_⟩
  refine List.forall_mem_cons.mpr ⟨lm_g285, ?_⟩
  refine List.forall_mem_cons.mpr ⟨lm_g286, ?_⟩
  refine List.forall_mem_cons.mpr ⟨lm_g287, ?_⟩
  refine List.forall_mem_cons.mpr ⟨lm_g288, ?_⟩
  refine List.forall_mem_cons.mpr ⟨lm_g289, ?_⟩
  refine List.forall_mem_cons.mpr ⟨lm_g290, ?_⟩
  refine List.forall_mem_cons.mpr ⟨lm_g291, ?_⟩
  refine List.forall_mem_cons.mpr ⟨lm_g292, ?_⟩
  refine List.forall_mem_cons.mpr ⟨lm_g293, ?_⟩
  refine List.forall_mem_cons.mpr ⟨lm_g294, ?_⟩
  refine List.forall_mem_cons.mpr ⟨lm_g295, ?_⟩
  refine List.forall_mem_cons.mpr ⟨lm_g296, ?_⟩
  refine List.forall_mem_cons.mpr ⟨lm_g297, ?_⟩
  refine List.forall_mem_cons.mpr ⟨lm_g298, ?_⟩
  refine List.forall_mem_cons.mpr ⟨lm_g299, ?_⟩
  refine List.forall_mem_cons.mpr ⟨lm_g300, ?_⟩
  refine List.forall_mem_cons.mpr ⟨lm_g301, ?_⟩
  refine List.forall_mem_cons.mpr ⟨lm_g302, ?_⟩
  refine List.forall_mem_cons.mpr ⟨lm_g303, ?_⟩
  refine List.forall_mem_cons.mpr ⟨lm_g304, ?_⟩
  refine List.forall_mem_cons.mpr ⟨lm_g305, ?_⟩
  refine List.forall_mem_cons.mpr ⟨lm_g306, ?_⟩
  refine List.forall_mem_cons.mpr ⟨lm_g307, ?_⟩
  refine List.forall_mem_cons.mpr ⟨lm_g308, ?_⟩
  refine List.forall_mem_cons.mpr ⟨lm_g309, ?_⟩
  refine List.forall_mem_cons.mpr ⟨lm_g310, ?_⟩
  exact fun _ h => absurd h List.not_mem_nil
theorem lm_good_all : ∀ (y : Nat) (Y : lm_Y), lm_P[y]? = some Y → lm_goodY lm_W0 lm_cl lm_dfs lm_vts lm_P Y := fun y Y h => lm_good_mem Y (List.mem_of_getElem? h)
