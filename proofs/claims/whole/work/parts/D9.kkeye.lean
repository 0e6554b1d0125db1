/-! ===== kemKeys of the class ===== -/
section LMKE
variable {xs : List Int32} {C : lm_CX} {d k e s : Nat} {m m0 : lm_MI} {n n0 : lm_ML} {x : lm_H × Nat × Nat}
/-- the pair of kemKeys -/
def ln_kP (C : lm_CX) (R : Nat → Int32) (k : Nat) : Nat → Int32 := lm_Hm C 10 (ln_g33 R k) 33
/-- all polynomials of the matrix can be had -/
def lm_kAll (C : lm_CX) (P : Nat → Int32) (a k : Nat) : Prop := ∀ i j, i < k → j < k → (lm_kA C P a j i).1 = 256
theorem lm_u152 (hC : lm_Cok xs C) (hr : ln_rt m) (ht : lm_Ktb m) (hx : lm_rom x) (hk : m 44 12 = Int32.ofNat k) (h13 : m 44 13 = Int32.ofNat e) (he : e = 2 ∨ e = 3) (hk4 : k ≤ 4) : (∃ m' n', lm_cal (lm_sc xs) (d + 7) 152 [.ref 44, .ref 27, .ref 28, .ref 30] (lm_w m n x) = some (.ok none, lm_w m' n' x) ∧ lm_kAll C (ln_kP C (m 27) k) 0 k ∧ (∀ r, (r < 5 ∨ 22 < r) → (r < 48 ∨ 73 < r) → r ≠ 28 → r ≠ 29 → r ≠ 30 → r ≠ 31 → m' r = m r) ∧ lm_fN m n m' n' ∧ m' 28 1 = Int32.ofNat (384 * k + 32) ∧ m' 30 1 = Int32.ofNat (768 * k + 96) ∧ (∀ j, j < 384 * k + 32 → lm_yb (m' 29 j) = lm_pub C (ln_kP C (m 27) k) e k j) ∧ ∀ j, j < 768 * k + 96 → lm_yb (m' 31 j) = lm_sec C (ln_kP C (m 27) k) (m 27) e k j) ∨ ∃ m' n', lm_cal (lm_sc xs) (d + 7) 152 [.ref 44, .ref 27, .ref 28, .ref 30] (lm_w m n x) = some (.error (lm_xp x), lm_w m' n' (lm_xx 15 x)) ∧ ¬ lm_kAll C (ln_kP C (m 27) k) 0 k ∧ (∀ r, (r < 5 ∨ 22 < r) → (r < 48 ∨ 73 < r) → m' r = m r) ∧ lm_fN m n m' n' := by
  generalize eM0 : lm_u (lm_cp m 72 0 27 0 32) 72 32 (lm_b8 (Int32.ofNat k)) = M0
  have r0 : ∀ r, r ≠ 72 → M0 r = m r := fun r hr => by rw [← eM0, lm_u_row hr, lm_cp_row hr]
  have hG : ∀ t, t < 33 → lm_b8 (M0 72 t) = ln_g33 (m 27) k t := fun t ht => by
    unfold ln_g33
    by_cases c : t < 32
    · rw [if_pos c, ← eM0, lm_u_ne (by omega), lm_rc, if_pos ⟨rfl, by omega, by omega⟩, Nat.sub_zero, Nat.add_zero]
    · rw [if_neg c, show t = 32 by omega, ← eM0, lm_u_eq, lm_b8b8]
  have rt0 : ln_rt M0 := ⟨by rw [r0 11 (by decide)]; exact hr.1, by rw [r0 17 (by decide)]; exact hr.2⟩
  obtain ⟨m1, n1, c1, f1, g1, v1⟩ := lm_u215 (xs := xs) (d := d + 1) (x := x) (n := n) (m := M0) (q1 := 72) (q3 := 72) (v1 := 34) (v3 := 34) (a3 := 0) (l1 := 33) (l3 := 0) (G := ln_g33 (m 27) k) hC rt0 rfl rfl (by decide) (by decide) (by decide) (by decide) (by decide) (by decide) hG (fun t ht => absurd ht (by omega))
  rw [Nat.add_zero] at v1
  have eP : lm_Hm C 10 (ln_g33 (m 27) k) 33 = ln_kP C (m 27) k := rfl
  rw [eP] at v1
  generalize ln_kP C (m 27) k = P at *
  have gm : lm_fN m n m1 n1 := (lm_fN.of (r0 11 (by decide)) (r0 17 (by decide))).tr g1
  have fr1 : ∀ r, (r < 5 ∨ 22 < r) → r ≠ 72 → r ≠ 73 → m1 r = m r := fun r h1 h2 h3 => (f1 r h1 h3).trans (r0 r h2)
  have K1 : lm_KP C P k e m1 := ⟨gm.rt hr, ⟨by rw [fr1 45 (by decide) (by decide) (by decide)]; exact ht.1, by rw [fr1 46 (by decide) (by decide) (by decide)]; exact ht.2⟩, by rw [fr1 44 (by decide) (by decide) (by decide)]; exact hk, by rw [fr1 44 (by decide) (by decide) (by decide)]; exact h13, fun i hi => by rw [v1 i hi]⟩
  have ekA : ∀ w1 w2, lm_kA C (m1 73) 0 w1 w2 = lm_kA C P 0 w1 w2 := fun w1 w2 => lm_kA_ext (fun i hi => K1.2.2.2.2 (0 + i) (by omega))
  have start : ∀ R, lm_bind (lm_asV (lm_cal (lm_sc xs) (d + 6) 216 [.ref 44, .ref 73, .int (Int32.ofNat 0)])) (fun _ => lm_rn (lm_sc xs) (d + 6) lm_m152.2.2.2.2.1 (lm_reg lm_m152.2.2.2.2.2) (52, [(0, .ref 44), (1, .ref 27), (2, .ref 28), (3, .ref 30), (4, .int (Int32.ofNat 0))], [])) (lm_w m1 n1 x) = some R → lm_cal (lm_sc xs) (d + 7) 152 [.ref 44, .ref 27, .ref 28, .ref 30] (lm_w m n x) = some R := by
    intro R K
    refine lm_cal_of (Y := lm_m152) rfl rfl (lm_e152_0 ?_)
    unfold lm_q152_0
    rw [lm_K0, lm_K32, lm_K33]
    repeat (first
    | ((with_reducible apply lm_sI); exact rfl)
    | ((with_reducible apply lm_sR); exact rfl)
    | ((with_reducible apply lm_sS); exact rfl; exact rfl)
    | ((with_reducible apply lm_sL); exact rfl)
    | ((with_reducible apply lm_sP); exact rfl; exact rfl)
    | ((with_reducible apply lm_sPL); exact rfl; exact rfl)
    | ((with_reducible apply lm_sAA); exact rfl; exact rfl)
    | ((with_reducible apply lm_sA); (first | exact rfl | assumption); omega)
    | ((with_reducible apply lm_sJ); (first | exact rfl | assumption); omega)
    | ((with_reducible apply lm_sB); (first | exact rfl | assumption); omega)
    | ((with_reducible apply lm_wA); (first | exact rfl | assumption); omega)
    | ((with_reducible apply lm_wJ); (first | exact rfl | assumption); omega)
    | ((with_reducible apply lm_wB); (first | exact rfl | assumption); omega)
    | ((with_reducible apply lm_sAl); (first | exact rfl | assumption); omega)
    | ((with_reducible apply lm_iW); decide))
    refine lm_sCp (u := 1) rfl rfl (Or.inr rfl) (by decide) (by decide) ?_
    repeat (first
    | ((with_reducible apply lm_sI); exact rfl)
    | ((with_reducible apply lm_sR); exact rfl)
    | ((with_reducible apply lm_sS); exact rfl; exact rfl)
    | ((with_reducible apply lm_sL); exact rfl)
    | ((with_reducible apply lm_sP); exact rfl; exact rfl)
    | ((with_reducible apply lm_sPL); exact rfl; exact rfl)
    | ((with_reducible apply lm_sAA); exact rfl; exact rfl)
    | ((with_reducible apply lm_sA); (first | exact rfl | assumption); omega)
    | ((with_reducible apply lm_sJ); (first | exact rfl | assumption); omega)
    | ((with_reducible apply lm_sB); (first | exact rfl | assumption); omega)
    | ((with_reducible apply lm_wA); (first | exact rfl | assumption); omega)
    | ((with_reducible apply lm_wJ); (first | exact rfl | assumption); omega)
    | ((with_reducible apply lm_wB); (first | exact rfl | assumption); omega)
    | ((with_reducible apply lm_sAl); (first | exact rfl | assumption); omega)
    | ((with_reducible apply lm_iW); decide))
    simp only [Nat.reduceDiv, Nat.reduceMod]
    rw [lm_cp_row (p' := 44) (by decide), hk, eM0]
    refine lm_cV c1 ?_
    repeat (first
    | ((with_reducible apply lm_sI); exact rfl)
    | ((with_reducible apply lm_sR); exact rfl)
    | ((with_reducible apply lm_sS); exact rfl; exact rfl)
    | ((with_reducible apply lm_sL); exact rfl)
    | ((with_reducible apply lm_sP); exact rfl; exact rfl)
    | ((with_reducible apply lm_sPL); exact rfl; exact rfl)
    | ((with_reducible apply lm_sAA); exact rfl; exact rfl)
    | ((with_reducible apply lm_sA); (first | exact rfl | assumption); omega)
    | ((with_reducible apply lm_sJ); (first | exact rfl | assumption); omega)
    | ((with_reducible apply lm_sB); (first | exact rfl | assumption); omega)
    | ((with_reducible apply lm_wA); (first | exact rfl | assumption); omega)
    | ((with_reducible apply lm_wJ); (first | exact rfl | assumption); omega)
    | ((with_reducible apply lm_wB); (first | exact rfl | assumption); omega)
    | ((with_reducible apply lm_sAl); (first | exact rfl | assumption); omega)
    | ((with_reducible apply lm_iW); decide))
    exact K
  rcases lm_u216 (xs := xs) (d := d) (x := x) (m := m1) (n := n1) (k := k) (q := 73) (v := 64) (a := 0) hC (gm.rt hr) hx K1.2.2.1 hk4 rfl (by decide) (by decide) with ⟨m2, n2, c2, f2, g2, v2⟩ | ⟨R, ⟨m2, n2, eR, f2, g2, i, j, hi, hj, hn⟩, c2⟩
  · refine Or.inl ?_
    have hall : lm_kAll C P 0 k := fun i j hi hj => by
      have := (v2 i j hi hj).1
      rw [ekA] at this
      exact this
    have K2 : lm_KP C P k e m2 := K1.keep (g2.rt K1.1) (f2 44 (by decide) (by decide) (by decide) (by decide)) (f2 45 (by decide) (by decide) (by decide) (by decide)) (f2 46 (by decide) (by decide) (by decide) (by decide)) (f2 73 (by decide) (by decide) (by decide) (by decide))
    obtain ⟨m3, n3, ⟨a1, a2, a3, a4⟩, k3⟩ := lm_l152a (xs := xs) (d := d + 1) (x := x) (n := n2) hC K2 he hk4
    have K3 : lm_KP C P k e m3 := K2.keep (a2.rt K2.1) (a1 44 (by decide) (by decide) (by decide) (by decide) (by decide)) (a1 45 (by decide) (by decide) (by decide) (by decide) (by decide)) (a1 46 (by decide) (by decide) (by decide) (by decide) (by decide)) (a1 73 (by decide) (by decide) (by decide) (by decide) (by decide))
    have hkk : k * k ≤ 16 := Nat.mul_le_mul hk4 hk4
    obtain ⟨m4, n4, ⟨b1, b2, b4⟩, k4⟩ := lm_l152b (xs := xs) (d := d + 1) (x := x) (n := n3) hC K3 he hk4 (fun i j hi hj => ⟨hall i j hi hj, fun c hc => by
      have hik : i * k + k ≤ k * k := by
        rw [← Nat.succ_mul]
        exact Nat.mul_le_mul_right k hi
      rw [a1 _ (by omega) (by omega) (by omega) (by omega) (by omega), (v2 i j hi hj).2 c hc, ekA]⟩) (fun j hj c hc => a3 j hj c hc)
    have K4 : lm_KP C P k e m4 := K3.keep (b2.rt K3.1) (b1 44 (by decide) (by decide) (by decide) (by decide) (by decide)) (b1 45 (by decide) (by decide) (by decide) (by decide) (by decide)) (b1 46 (by decide) (by decide) (by decide) (by decide) (by decide)) (b1 73 (by decide) (by decide) (by decide) (by decide) (by decide))
    have e27 : m4 27 = m 27 := by rw [b1 27 (by decide) (by decide) (by decide) (by decide) (by decide), a1 27 (by decide) (by decide) (by decide) (by decide) (by decide), f2 27 (by decide) (by decide) (by decide) (by decide), fr1 27 (by decide) (by decide) (by decide)]
    obtain ⟨m5, n5, c5, d1, d2, d3, d4, d5, d6⟩ := lm_l152c (xs := xs) (d := d + 1) (x := x) (n := n4) (R := m 27) hC K4 hk4 b4 (fun j hj => by rw [b1 31 (by decide) (by decide) (by decide) (by decide) (by decide)]; exact a4 j hj) (fun t ht => by rw [e27])
    refine ⟨m5, n5, ?_, hall, fun r r1 r2 r3 r4 r5 r6 => ?_, ?_, d3, d4, d5, d6⟩
    · refine start _ (lm_cV c2 ?_)
      refine k3 _ (lm_e152_52 ?_)
      unfold lm_q152_52
      repeat (first
    | ((with_reducible apply lm_sI); exact rfl)
    | ((with_reducible apply lm_sR); exact rfl)
    | ((with_reducible apply lm_sS); exact rfl; exact rfl)
    | ((with_reducible apply lm_sL); exact rfl)
    | ((with_reducible apply lm_sP); exact rfl; exact rfl)
    | ((with_reducible apply lm_sPL); exact rfl; exact rfl)
    | ((with_reducible apply lm_sAA); exact rfl; exact rfl)
    | ((with_reducible apply lm_sA); (first | exact rfl | assumption); omega)
    | ((with_reducible apply lm_sJ); (first | exact rfl | assumption); omega)
    | ((with_reducible apply lm_sB); (first | exact rfl | assumption); omega)
    | ((with_reducible apply lm_wA); (first | exact rfl | assumption); omega)
    | ((with_reducible apply lm_wJ); (first | exact rfl | assumption); omega)
    | ((with_reducible apply lm_wB); (first | exact rfl | assumption); omega)
    | ((with_reducible apply lm_sAl); (first | exact rfl | assumption); omega)
    | ((with_reducible apply lm_iW); decide))
      simp only [Nat.reduceDiv, Nat.reduceMod]
      rw [K3.2.2.1]
      refine lm_geT (by omega) (by omega) (by omega) ?_
      rw [lm_K0]
      exact k4 _ c5
    · rw [d1 r r1 r3 r4 r5 r6, b1 r r1 (by omega) (by omega) (by omega) r4, a1 r r1 (by omega) (by omega) (by omega) r6, f2 r r1 (by omega) (by omega) (by omega), fr1 r r1 (by omega) (by omega)]
    · exact gm.tr (g2.tr (a2.tr (b2.tr d2)))
  · refine Or.inr ⟨m2, n2, ?_, fun g => hn ?_, fun r r1 r2 => ?_, gm.tr g2⟩
    · rw [eR] at c2
      exact start _ (lm_cVe c2)
    · rw [ekA]
      exact g i j hi hj
    · rw [f2 r r1 (by omega) (by omega) (by omega), fr1 r r1 (by omega) (by omega)]
theorem lm_ck_v (hs : s ≤ 2) : lm_ck m s 44 12 = Int32.ofNat (s + 2) ∧ lm_ck m s 44 13 = Int32.ofNat (lm_ke s) ∧ lm_ck m s 44 14 = Int32.ofNat (lm_ku s) ∧ lm_ck m s 44 15 = Int32.ofNat (lm_kv s) := by
  unfold lm_ck
  refine ⟨?_, ?_, ?_, lm_u_eq⟩
  · rw [lm_u_ne (by decide), lm_u_ne (by decide), lm_u_ne (by decide), lm_u_eq]
  · rw [lm_u_ne (by decide), lm_u_ne (by decide), lm_u_eq]
  · rw [lm_u_ne (by decide), lm_u_eq]
theorem lm_ke_2 (hs : s ≤ 2) : lm_ke s = 2 ∨ lm_ke s = 3 := by
  unfold lm_ke
  split
  · exact Or.inr rfl
  · exact Or.inl rfl
/-- kemKeys of the class, its arguments good -/
theorem lm_u67c (hC : lm_Cok xs C) (hr : ln_rt m) (ht : lm_Ktb m) (hx : lm_rom x) (hs : s ≤ 2) (h64 : m 26 1 = Int32.ofNat 64) : (∃ m' n', lm_cal (lm_sc xs) (d + 8) 67 [.ref 0, .int (Int32.ofNat s)] (lm_w m n x) = some (.ok (some (.int (Int32.ofNat (768 * (s + 2) + 96)))), lm_w m' n' x) ∧ lm_kAll C (ln_kP C (m 27) (s + 2)) 0 (s + 2) ∧ (∀ r, (r < 5 ∨ 22 < r) → r ≠ 44 → (r < 48 ∨ 73 < r) → r ≠ 28 → r ≠ 29 → r ≠ 30 → r ≠ 31 → m' r = m r) ∧ lm_fN m n m' n' ∧ m' 28 1 = Int32.ofNat (384 * (s + 2) + 32) ∧ m' 30 1 = Int32.ofNat (768 * (s + 2) + 96) ∧ (∀ j, j < 384 * (s + 2) + 32 → lm_yb (m' 29 j) = lm_pub C (ln_kP C (m 27) (s + 2)) (lm_ke s) (s + 2) j) ∧ ∀ j, j < 768 * (s + 2) + 96 → lm_yb (m' 31 j) = lm_sec C (ln_kP C (m 27) (s + 2)) (m 27) (lm_ke s) (s + 2) j) ∨ ∃ m' n', lm_cal (lm_sc xs) (d + 8) 67 [.ref 0, .int (Int32.ofNat s)] (lm_w m n x) = some (.error (lm_xp x), lm_w m' n' (lm_xx 15 x)) ∧ ¬ lm_kAll C (ln_kP C (m 27) (s + 2)) 0 (s + 2) ∧ (∀ r, (r < 5 ∨ 22 < r) → r ≠ 44 → (r < 48 ∨ 73 < r) → m' r = m r) ∧ lm_fN m n m' n' := by
  obtain ⟨q1, q2, q3, q4⟩ := lm_ck_v (m := m) hs
  have e27 : lm_ck m s 27 = m 27 := lm_ck_row (by decide)
  have f0 : lm_fN m n (lm_ck m s) n := .of (lm_ck_row (by decide)) (lm_ck_row (by decide))
  have start : ∀ R, lm_bind (lm_asV (lm_cal (lm_sc xs) (d + 7) 152 [.ref 44, .ref 27, .ref 28, .ref 30])) (fun _ => lm_bind (lm_gR 2 0) fun v12 => lm_bind (lm_aaR (lm_sc xs) v12 (Int32.ofInt 2)) fun v13 => lm_bind (lm_gI 404 v13) fun v14 => lm_ret (some (.int v14))) (lm_w (lm_ck m s) n x) = some R → lm_cal (lm_sc xs) (d + 8) 67 [.ref 0, .int (Int32.ofNat s)] (lm_w m n x) = some R := by
    intro R K
    refine lm_cal_of (Y := lm_m67) rfl rfl (lm_e67_0 ?_)
    unfold lm_q67_0
    refine lm_cV (lm_t132n (i := s) (d := d + 6) (n := 2) hs (by omega)) ?_
    rw [lm_K0, lm_K64]
    repeat (first
    | ((with_reducible apply lm_sI); exact rfl)
    | ((with_reducible apply lm_sR); exact rfl)
    | ((with_reducible apply lm_sS); exact rfl; exact rfl)
    | ((with_reducible apply lm_sL); exact rfl)
    | ((with_reducible apply lm_sP); exact rfl; exact rfl)
    | ((with_reducible apply lm_sPL); exact rfl; exact rfl)
    | ((with_reducible apply lm_sAA); exact rfl; first | exact rfl | exact lm_roO (by omega) | exact lm_roM (by omega))
    | ((with_reducible apply lm_sI); exact lm_fpL (by omega))
    | ((with_reducible apply lm_sR); exact lm_fpB (by omega))
    | ((with_reducible apply lm_sP); exact lm_fpL (by omega); exact rfl)
    | ((with_reducible apply lm_sS); exact lm_ocO (by omega); exact rfl)
    | ((with_reducible apply lm_sA); exact rfl; omega)
    | ((with_reducible apply lm_sJ); exact rfl; omega)
    | ((with_reducible apply lm_sB); (first | exact rfl | exact lm_arB (by omega) | exact lm_arM (by omega)); omega)
    | ((with_reducible apply lm_wA); exact rfl; omega)
    | ((with_reducible apply lm_wJ); exact rfl; omega)
    | ((with_reducible apply lm_wB); (first | exact rfl | exact lm_arB (by omega) | exact lm_arM (by omega)); omega)
    | ((with_reducible apply lm_sAl); (first | exact rfl | exact lm_arB (by omega) | exact lm_arM (by omega)); omega)
    | ((with_reducible apply lm_iW); decide))
    simp only [Nat.reduceDiv, Nat.reduceMod, h64]
    refine lm_neF (by omega) (by omega) (by decide) ?_
    refine lm_e67_25 ?_
    unfold lm_q67_25
    refine lm_cV (lm_u150 (d := d + 6)) ?_
    repeat (first
    | ((with_reducible apply lm_sI); exact rfl)
    | ((with_reducible apply lm_sR); exact rfl)
    | ((with_reducible apply lm_sS); exact rfl; exact rfl)
    | ((with_reducible apply lm_sL); exact rfl)
    | ((with_reducible apply lm_sP); exact rfl; exact rfl)
    | ((with_reducible apply lm_sPL); exact rfl; exact rfl)
    | ((with_reducible apply lm_sAA); exact rfl; first | exact rfl | exact lm_roO (by omega) | exact lm_roM (by omega))
    | ((with_reducible apply lm_sI); exact lm_fpL (by omega))
    | ((with_reducible apply lm_sR); exact lm_fpB (by omega))
    | ((with_reducible apply lm_sP); exact lm_fpL (by omega); exact rfl)
    | ((with_reducible apply lm_sS); exact lm_ocO (by omega); exact rfl)
    | ((with_reducible apply lm_sA); exact rfl; omega)
    | ((with_reducible apply lm_sJ); exact rfl; omega)
    | ((with_reducible apply lm_sB); (first | exact rfl | exact lm_arB (by omega) | exact lm_arM (by omega)); omega)
    | ((with_reducible apply lm_wA); exact rfl; omega)
    | ((with_reducible apply lm_wJ); exact rfl; omega)
    | ((with_reducible apply lm_wB); (first | exact rfl | exact lm_arB (by omega) | exact lm_arM (by omega)); omega)
    | ((with_reducible apply lm_sAl); (first | exact rfl | exact lm_arB (by omega) | exact lm_arM (by omega)); omega)
    | ((with_reducible apply lm_iW); decide))
    refine lm_cV (show lm_cal (lm_sc xs) (d + 7) 151 [.ref 44, .int (Int32.ofNat s)] (lm_w m n x) = some (.ok none, lm_w (lm_ck m s) n x) from lm_u151 (d := d + 6) hs) ?_
    rw [lm_K0, lm_K1]
    repeat (first
    | ((with_reducible apply lm_sI); exact rfl)
    | ((with_reducible apply lm_sR); exact rfl)
    | ((with_reducible apply lm_sS); exact rfl; exact rfl)
    | ((with_reducible apply lm_sL); exact rfl)
    | ((with_reducible apply lm_sP); exact rfl; exact rfl)
    | ((with_reducible apply lm_sPL); exact rfl; exact rfl)
    | ((with_reducible apply lm_sAA); exact rfl; first | exact rfl | exact lm_roO (by omega) | exact lm_roM (by omega))
    | ((with_reducible apply lm_sI); exact lm_fpL (by omega))
    | ((with_reducible apply lm_sR); exact lm_fpB (by omega))
    | ((with_reducible apply lm_sP); exact lm_fpL (by omega); exact rfl)
    | ((with_reducible apply lm_sS); exact lm_ocO (by omega); exact rfl)
    | ((with_reducible apply lm_sA); exact rfl; omega)
    | ((with_reducible apply lm_sJ); exact rfl; omega)
    | ((with_reducible apply lm_sB); (first | exact rfl | exact lm_arB (by omega) | exact lm_arM (by omega)); omega)
    | ((with_reducible apply lm_wA); exact rfl; omega)
    | ((with_reducible apply lm_wJ); exact rfl; omega)
    | ((with_reducible apply lm_wB); (first | exact rfl | exact lm_arB (by omega) | exact lm_arM (by omega)); omega)
    | ((with_reducible apply lm_sAl); (first | exact rfl | exact lm_arB (by omega) | exact lm_arM (by omega)); omega)
    | ((with_reducible apply lm_iW); decide))
    rw [lm_K2]
    repeat (first
    | ((with_reducible apply lm_sI); exact rfl)
    | ((with_reducible apply lm_sR); exact rfl)
    | ((with_reducible apply lm_sS); exact rfl; exact rfl)
    | ((with_reducible apply lm_sL); exact rfl)
    | ((with_reducible apply lm_sP); exact rfl; exact rfl)
    | ((with_reducible apply lm_sPL); exact rfl; exact rfl)
    | ((with_reducible apply lm_sAA); exact rfl; first | exact rfl | exact lm_roO (by omega) | exact lm_roM (by omega))
    | ((with_reducible apply lm_sI); exact lm_fpL (by omega))
    | ((with_reducible apply lm_sR); exact lm_fpB (by omega))
    | ((with_reducible apply lm_sP); exact lm_fpL (by omega); exact rfl)
    | ((with_reducible apply lm_sS); exact lm_ocO (by omega); exact rfl)
    | ((with_reducible apply lm_sA); exact rfl; omega)
    | ((with_reducible apply lm_sJ); exact rfl; omega)
    | ((with_reducible apply lm_sB); (first | exact rfl | exact lm_arB (by omega) | exact lm_arM (by omega)); omega)
    | ((with_reducible apply lm_wA); exact rfl; omega)
    | ((with_reducible apply lm_wJ); exact rfl; omega)
    | ((with_reducible apply lm_wB); (first | exact rfl | exact lm_arB (by omega) | exact lm_arM (by omega)); omega)
    | ((with_reducible apply lm_sAl); (first | exact rfl | exact lm_arB (by omega) | exact lm_arM (by omega)); omega)
    | ((with_reducible apply lm_iW); decide))
    rw [lm_K2] at K
    exact K
  rcases lm_u152 (xs := xs) (d := d) (x := x) (m := lm_ck m s) (n := n) (k := s + 2) (e := lm_ke s) hC (f0.rt hr) ⟨by rw [lm_ck_row (by decide)]; exact ht.1, by rw [lm_ck_row (by decide)]; exact ht.2⟩ hx q1 q2 (lm_ke_2 hs) (by omega) with ⟨m', n', c, a1, a2, a3, a4, a5, a6, a7⟩ | ⟨m', n', c, a1, a2, a3⟩
  · rw [e27] at a1 a6 a7
    refine Or.inl ⟨m', n', start _ (lm_cV c ?_), a1, fun r r1 r2 r3 r4 r5 r6 r7 => (a2 r r1 r3 r4 r5 r6 r7).trans (lm_ck_row r2), f0.tr a3, a4, a5, a6, a7⟩
    rw [lm_K2]
    repeat (first
    | ((with_reducible apply lm_sI); exact rfl)
    | ((with_reducible apply lm_sR); exact rfl)
    | ((with_reducible apply lm_sS); exact rfl; exact rfl)
    | ((with_reducible apply lm_sL); exact rfl)
    | ((with_reducible apply lm_sP); exact rfl; exact rfl)
    | ((with_reducible apply lm_sPL); exact rfl; exact rfl)
    | ((with_reducible apply lm_sAA); exact rfl; first | exact rfl | exact lm_roO (by omega) | exact lm_roM (by omega))
    | ((with_reducible apply lm_sI); exact lm_fpL (by omega))
    | ((with_reducible apply lm_sR); exact lm_fpB (by omega))
    | ((with_reducible apply lm_sP); exact lm_fpL (by omega); exact rfl)
    | ((with_reducible apply lm_sS); exact lm_ocO (by omega); exact rfl)
    | ((with_reducible apply lm_sA); exact rfl; omega)
    | ((with_reducible apply lm_sJ); exact rfl; omega)
    | ((with_reducible apply lm_sB); (first | exact rfl | exact lm_arB (by omega) | exact lm_arM (by omega)); omega)
    | ((with_reducible apply lm_wA); exact rfl; omega)
    | ((with_reducible apply lm_wJ); exact rfl; omega)
    | ((with_reducible apply lm_wB); (first | exact rfl | exact lm_arB (by omega) | exact lm_arM (by omega)); omega)
    | ((with_reducible apply lm_sAl); (first | exact rfl | exact lm_arB (by omega) | exact lm_arM (by omega)); omega)
    | ((with_reducible apply lm_iW); decide))
    simp only [Nat.reduceDiv, Nat.reduceMod]
    rw [a5]
    rfl
  · rw [e27] at a1
    exact Or.inr ⟨m', n', start _ (lm_cVe c), a1, fun r r1 r2 r3 => (a2 r r1 r3).trans (lm_ck_row r2), f0.tr a3⟩
end LMKE
