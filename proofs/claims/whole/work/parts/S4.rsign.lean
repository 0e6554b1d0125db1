/-! ===== slhSign of the reference ===== -/
section LMUL
variable {sc : lm_H} {xs : List Int32} {C : lm_CX} {d s kk xl ml rl sl : Nat} {m m' : lm_MI} {n n' : lm_ML} {x : lm_H × Nat × Nat} {P S V0 Kb Rn Sg D : Nat → Int32} {T0 l0 b : Nat} {v w : Int32}
def lm_J36 (C : lm_CX) (s : Nat) (P S : Nat → Int32) (T0 l0 : Nat) (V0 : Nat → Int32) (b : Nat) (m0 : lm_MI) (n0 : lm_ML) (k : Nat) (m : lm_MI) (n : lm_ML) : Prop := lm_RY C s P S m n ∧ (∀ r, r ≠ 203 → r ≠ 227 → r ≠ 265 → (r < 333 ∨ 360 < r) → m r = m0 r) ∧ lm_fG m0 n0 m n ∧ (∀ i, i < b → m 265 i = m0 265 i) ∧ lm_PQw m 265 b (lm_stb C s P S T0 l0 V0) (k * lm_lsz s) ∧ ∀ t, t < lm_sn s → lm_b8 (m 354 t) = lm_vk C s P S T0 l0 V0 k t
theorem lm_l36b (hs : s ≤ 11) {m0 : lm_MI} {n0 : lm_ML} (hbw : b + lm_sd s * lm_lsz s ≤ 65536) (hT : T0 < 18446744073709551616) (hl : l0 < 512) : ∀ k, k < lm_sd s → ∀ m n, lm_J36 C s P S T0 l0 V0 b m0 n0 k m n → ∃ m' n', lm_J36 C s P S T0 l0 V0 b m0 n0 (k + 1) m' n' ∧ ∀ R, lm_rn sc (d + 25) lm_m36.2.2.2.2.1 (lm_reg lm_m36.2.2.2.2.2) (415, [(0, .ref 203), (3, .long (Int64.ofNat (lm_tri s T0 (k + 1)))), (5, .int (Int32.ofNat (lm_lfi s T0 l0 (k + 1)))), (6, .int (Int32.ofNat (b + (k + 1) * lm_lsz s))), (7, .int (Int32.ofNat (k + 1)))], []) (lm_w m' n' x) = some R → lm_rn sc (d + 25) lm_m36.2.2.2.2.1 (lm_reg lm_m36.2.2.2.2.2) (415, [(0, .ref 203), (3, .long (Int64.ofNat (lm_tri s T0 k))), (5, .int (Int32.ofNat (lm_lfi s T0 l0 k))), (6, .int (Int32.ofNat (b + k * lm_lsz s))), (7, .int (Int32.ofNat k))], []) (lm_w m n x) = some R := by
  intro k hk m n ⟨i1, i2, i3, i4, i5, i6⟩
  have hpar := lm_spar s hs
  have hlz : lm_lsz s = (lm_cw s + lm_sh s) * lm_sn s := Nat.mul_comm ..
  have hk2 : k * lm_lsz s + lm_lsz s ≤ lm_sd s * lm_lsz s := by rw [← Nat.succ_mul]; exact Nat.mul_le_mul_right _ hk
  have hT' := lm_tri_lt (s := s) hT k
  have hl' := lm_lfi_lt (s := s) (T0 := T0) hs hl k
  obtain ⟨m1, c1, f1, S1⟩ := lm_plr (sc := sc) (d := d + 24) (x := x) (k := k) (T := lm_tri s T0 k) i1 (by omega)
  have u2 := lm_u75 (sc := sc) (d := d + 24) (m := m1) (n := n) (x := x) (q := 354) (p := 360) (v := 64) (w := 32) (a := 0) (b := 0) (l := lm_sn s) rfl rfl (by decide) (by omega) (by omega) (by decide) (by decide)
  generalize eM2 : lm_fil m1 360 0 (0 + lm_sn s) (fun i => lm_b8 (m1 354 (0 + (i - 0)))) = M2 at u2
  have r2 : ∀ r, r ≠ 360 → M2 r = m1 r := fun r hr => by rw [← eM2, lm_fl_row hr]
  have F2 : lm_fG m1 n M2 n := lm_fG.of (r2 203 (by decide))
  have S2 : lm_RX (lm_WL C s P S k (lm_tri s T0 k)) M2 n := S1.keep F2 (r2 221 (by decide)) (r2 358 (by decide)) (r2 359 (by decide)) (r2 333 (by decide))
  have v2 : ∀ t, t < lm_sn s → lm_b8 (M2 360 (0 + t)) = lm_vk C s P S T0 l0 V0 k t := fun t ht => by
    rw [← eM2, Nat.zero_add, lm_fl_in (by omega), lm_b8b8, Nat.sub_zero, Nat.zero_add, f1 354 (by decide), Nat.zero_add]
    exact i6 t ht
  obtain ⟨m3, n3, c3, S3, f3, g3, o3, p3⟩ := lm_u119 (sc := sc) (d := d + 5) (x := x) (W := lm_WL C s P S k (lm_tri s T0 k)) (V := lm_vk C s P S T0 l0 V0 k) (I := lm_lfi s T0 l0 k) (q := 360) (v := 32) (a := 0) (p := 265) (w := 65536) (b := b + k * lm_lsz s) hs S2 rfl (by decide) (show 0 + lm_sn s ≤ 32 by omega) (by decide) v2 hl' rfl (by decide) (show b + k * lm_lsz s + (lm_cw s + lm_sh s) * lm_sn s ≤ 65536 by omega) (by decide)
  obtain ⟨m4, n4, c4, S4, f4, g4, v4⟩ := lm_u120 (sc := sc) (d := d + 17) (x := x) (W := lm_WL C s P S k (lm_tri s T0 k)) (V := lm_vk C s P S T0 l0 V0 k) (A := lm_slb (lm_WL C s P S k (lm_tri s T0 k)) (lm_lfi s T0 l0 k) (lm_vk C s P S T0 l0 V0 k)) (I := lm_lfi s T0 l0 k) (q := 360) (v := 32) (a := 0) (p := 265) (w := 65536) (b := b + k * lm_lsz s) hs S3 rfl (by decide) (show 0 + lm_sn s ≤ 32 by omega) (by decide) (fun t ht => by rw [f3 360 (by decide) (by decide) (by decide) (by decide) (by decide)]; exact v2 t ht) (by omega) rfl (by decide) (show b + k * lm_lsz s + (lm_cw s + lm_sh s) * lm_sn s ≤ 65536 by omega) (by decide) p3
  have S4y : lm_RY C s P S m4 n4 := S4.y
  have e265 : m4 265 = m3 265 := f4 265 (by decide) (by decide) (by decide) (by decide) (by decide) (by decide) (by decide)
  have lo : ∀ i, i < b + k * lm_lsz s → m4 265 i = m 265 i := fun i hi => by rw [e265, o3 i hi, r2 265 (by decide), f1 265 (by decide)]
  refine ⟨m4, n4, ⟨S4y, fun r q1 q2 q3 q4 => by rw [f4 r q1 q2 (by omega) (by omega) (by omega) (by omega) (by omega), f3 r q1 q2 (by omega) (by omega) q3, r2 r (by omega), f1 r (by omega), i2 r q1 q2 q3 q4], i3.tr (lm_fG.tr (lm_fG.of (f1 203 (by decide))) (F2.tr (g3.tr g4))), fun i hi => by rw [lo i (by omega), i4 i hi], fun t ht => ?_, v4⟩, fun R KK => ?_⟩
  · rw [Nat.succ_mul] at ht
    by_cases c : t < k * lm_lsz s
    · rw [lo _ (by omega)]
      exact i5 t c
    · obtain ⟨i, rfl⟩ : ∃ i, t = k * lm_lsz s + i := ⟨t - k * lm_lsz s, by omega⟩
      have hi : i < lm_lsz s := by omega
      have hp := p3 i (show i < (lm_cw s + lm_sh s) * lm_sn s by omega)
      rw [e265, ← Nat.add_assoc, hp]
      unfold lm_stb
      rw [(lm_dmn hi).1, (lm_dmn hi).2]
  · have S1f : lm_RF m1 s := S1.2.1
    have S4f : lm_RF m4 s := S4y.2.1
    clear v4 i6 p3 o3 i4 i5 lo v2
    refine lm_e36_415 ?_
    unfold lm_q36_415
    rw [lm_K0]
    repeat (first
    | ((with_reducible apply lm_sI); exact rfl)
    | ((with_reducible apply lm_sR); exact rfl)
    | ((with_reducible apply lm_sS); exact rfl; exact rfl)
    | ((with_reducible apply lm_sL); exact rfl)
    | ((with_reducible apply lm_sP); exact rfl; exact rfl)
    | ((with_reducible apply lm_sPL); exact rfl; exact rfl)
    | ((with_reducible apply lm_sAA); exact rfl; first | exact rfl | exact lm_roO (by omega) | exact lm_roM (by omega))
    | ((with_reducible apply lm_sI); exact lm_fpL (by omega))
    | ((with_reducible apply lm_sR); exact lm_fpB (by omega))
    | ((with_reducible apply lm_sP); exact lm_fpL (by omega); exact rfl)
    | ((with_reducible apply lm_sS); exact lm_ocO (by omega); exact rfl)
    | ((with_reducible apply lm_sA); exact rfl; omega)
    | ((with_reducible apply lm_sJ); exact rfl; omega)
    | ((with_reducible apply lm_sB); (first | exact rfl | exact lm_arB (by omega) | exact lm_arM (by omega)); omega)
    | ((with_reducible apply lm_wA); exact rfl; omega)
    | ((with_reducible apply lm_wJ); exact rfl; omega)
    | ((with_reducible apply lm_wB); (first | exact rfl | exact lm_arB (by omega) | exact lm_arM (by omega)); omega)
    | ((with_reducible apply lm_sAl); (first | exact rfl | exact lm_arB (by omega) | exact lm_arM (by omega)); omega)
    | ((with_reducible apply lm_iW); decide))
    simp only [Nat.reduceDiv, Nat.reduceMod]
    rw [i1.2.1.2.2.1]
    refine lm_geF (by omega) (by omega) (by omega) ?_
    repeat (first
    | ((with_reducible apply lm_sI); exact rfl)
    | ((with_reducible apply lm_sR); exact rfl)
    | ((with_reducible apply lm_sS); exact rfl; exact rfl)
    | ((with_reducible apply lm_sL); exact rfl)
    | ((with_reducible apply lm_sP); exact rfl; exact rfl)
    | ((with_reducible apply lm_sPL); exact rfl; exact rfl)
    | ((with_reducible apply lm_sAA); exact rfl; first | exact rfl | exact lm_roO (by omega) | exact lm_roM (by omega))
    | ((with_reducible apply lm_sI); exact lm_fpL (by omega))
    | ((with_reducible apply lm_sR); exact lm_fpB (by omega))
    | ((with_reducible apply lm_sP); exact lm_fpL (by omega); exact rfl)
    | ((with_reducible apply lm_sS); exact lm_ocO (by omega); exact rfl)
    | ((with_reducible apply lm_sA); exact rfl; omega)
    | ((with_reducible apply lm_sJ); exact rfl; omega)
    | ((with_reducible apply lm_sB); (first | exact rfl | exact lm_arB (by omega) | exact lm_arM (by omega)); omega)
    | ((with_reducible apply lm_wA); exact rfl; omega)
    | ((with_reducible apply lm_wJ); exact rfl; omega)
    | ((with_reducible apply lm_wB); (first | exact rfl | exact lm_arB (by omega) | exact lm_arM (by omega)); omega)
    | ((with_reducible apply lm_sAl); (first | exact rfl | exact lm_arB (by omega) | exact lm_arM (by omega)); omega)
    | ((with_reducible apply lm_iW); decide))
    refine lm_cV c1 ?_
    repeat (first
    | ((with_reducible apply lm_sI); exact rfl)
    | ((with_reducible apply lm_sR); exact rfl)
    | ((with_reducible apply lm_sS); exact rfl; exact rfl)
    | ((with_reducible apply lm_sL); exact rfl)
    | ((with_reducible apply lm_sP); exact rfl; exact rfl)
    | ((with_reducible apply lm_sPL); exact rfl; exact rfl)
    | ((with_reducible apply lm_sAA); exact rfl; first | exact rfl | exact lm_roO (by omega) | exact lm_roM (by omega))
    | ((with_reducible apply lm_sI); exact lm_fpL (by omega))
    | ((with_reducible apply lm_sR); exact lm_fpB (by omega))
    | ((with_reducible apply lm_sP); exact lm_fpL (by omega); exact rfl)
    | ((with_reducible apply lm_sS); exact lm_ocO (by omega); exact rfl)
    | ((with_reducible apply lm_sA); exact rfl; omega)
    | ((with_reducible apply lm_sJ); exact rfl; omega)
    | ((with_reducible apply lm_sB); (first | exact rfl | exact lm_arB (by omega) | exact lm_arM (by omega)); omega)
    | ((with_reducible apply lm_wA); exact rfl; omega)
    | ((with_reducible apply lm_wJ); exact rfl; omega)
    | ((with_reducible apply lm_wB); (first | exact rfl | exact lm_arB (by omega) | exact lm_arM (by omega)); omega)
    | ((with_reducible apply lm_sAl); (first | exact rfl | exact lm_arB (by omega) | exact lm_arM (by omega)); omega)
    | ((with_reducible apply lm_iW); decide))
    simp only [Nat.reduceDiv, Nat.reduceMod]
    rw [S1f.1]
    refine lm_cV u2 ?_
    repeat (first
    | ((with_reducible apply lm_sI); exact rfl)
    | ((with_reducible apply lm_sR); exact rfl)
    | ((with_reducible apply lm_sS); exact rfl; exact rfl)
    | ((with_reducible apply lm_sL); exact rfl)
    | ((with_reducible apply lm_sP); exact rfl; exact rfl)
    | ((with_reducible apply lm_sPL); exact rfl; exact rfl)
    | ((with_reducible apply lm_sAA); exact rfl; first | exact rfl | exact lm_roO (by omega) | exact lm_roM (by omega))
    | ((with_reducible apply lm_sI); exact lm_fpL (by omega))
    | ((with_reducible apply lm_sR); exact lm_fpB (by omega))
    | ((with_reducible apply lm_sP); exact lm_fpL (by omega); exact rfl)
    | ((with_reducible apply lm_sS); exact lm_ocO (by omega); exact rfl)
    | ((with_reducible apply lm_sA); exact rfl; omega)
    | ((with_reducible apply lm_sJ); exact rfl; omega)
    | ((with_reducible apply lm_sB); (first | exact rfl | exact lm_arB (by omega) | exact lm_arM (by omega)); omega)
    | ((with_reducible apply lm_wA); exact rfl; omega)
    | ((with_reducible apply lm_wJ); exact rfl; omega)
    | ((with_reducible apply lm_wB); (first | exact rfl | exact lm_arB (by omega) | exact lm_arM (by omega)); omega)
    | ((with_reducible apply lm_sAl); (first | exact rfl | exact lm_arB (by omega) | exact lm_arM (by omega)); omega)
    | ((with_reducible apply lm_iW); decide))
    refine lm_cV c3 ?_
    repeat (first
    | ((with_reducible apply lm_sI); exact rfl)
    | ((with_reducible apply lm_sR); exact rfl)
    | ((with_reducible apply lm_sS); exact rfl; exact rfl)
    | ((with_reducible apply lm_sL); exact rfl)
    | ((with_reducible apply lm_sP); exact rfl; exact rfl)
    | ((with_reducible apply lm_sPL); exact rfl; exact rfl)
    | ((with_reducible apply lm_sAA); exact rfl; first | exact rfl | exact lm_roO (by omega) | exact lm_roM (by omega))
    | ((with_reducible apply lm_sI); exact lm_fpL (by omega))
    | ((with_reducible apply lm_sR); exact lm_fpB (by omega))
    | ((with_reducible apply lm_sP); exact lm_fpL (by omega); exact rfl)
    | ((with_reducible apply lm_sS); exact lm_ocO (by omega); exact rfl)
    | ((with_reducible apply lm_sA); exact rfl; omega)
    | ((with_reducible apply lm_sJ); exact rfl; omega)
    | ((with_reducible apply lm_sB); (first | exact rfl | exact lm_arB (by omega) | exact lm_arM (by omega)); omega)
    | ((with_reducible apply lm_wA); exact rfl; omega)
    | ((with_reducible apply lm_wJ); exact rfl; omega)
    | ((with_reducible apply lm_wB); (first | exact rfl | exact lm_arB (by omega) | exact lm_arM (by omega)); omega)
    | ((with_reducible apply lm_sAl); (first | exact rfl | exact lm_arB (by omega) | exact lm_arM (by omega)); omega)
    | ((with_reducible apply lm_iW); decide))
    refine lm_cV c4 ?_
    repeat (first
    | ((with_reducible apply lm_sI); exact rfl)
    | ((with_reducible apply lm_sR); exact rfl)
    | ((with_reducible apply lm_sS); exact rfl; exact rfl)
    | ((with_reducible apply lm_sL); exact rfl)
    | ((with_reducible apply lm_sP); exact rfl; exact rfl)
    | ((with_reducible apply lm_sPL); exact rfl; exact rfl)
    | ((with_reducible apply lm_sAA); exact rfl; first | exact rfl | exact lm_roO (by omega) | exact lm_roM (by omega))
    | ((with_reducible apply lm_sI); exact lm_fpL (by omega))
    | ((with_reducible apply lm_sR); exact lm_fpB (by omega))
    | ((with_reducible apply lm_sP); exact lm_fpL (by omega); exact rfl)
    | ((with_reducible apply lm_sS); exact lm_ocO (by omega); exact rfl)
    | ((with_reducible apply lm_sA); exact rfl; omega)
    | ((with_reducible apply lm_sJ); exact rfl; omega)
    | ((with_reducible apply lm_sB); (first | exact rfl | exact lm_arB (by omega) | exact lm_arM (by omega)); omega)
    | ((with_reducible apply lm_wA); exact rfl; omega)
    | ((with_reducible apply lm_wJ); exact rfl; omega)
    | ((with_reducible apply lm_wB); (first | exact rfl | exact lm_arB (by omega) | exact lm_arM (by omega)); omega)
    | ((with_reducible apply lm_sAl); (first | exact rfl | exact lm_arB (by omega) | exact lm_arM (by omega)); omega)
    | ((with_reducible apply lm_iW); decide))
    simp only [Nat.reduceDiv, Nat.reduceMod]
    rw [S4f.2.2.2.2.2.2.1, S4f.2.2.2.1, S4f.1, lm_tmk hT' (by omega), lm_uLn hT' (by omega), lm_K1, lm_oo, lm_om, lm_oo, lm_oo, ← hlz, Nat.add_assoc, ← Nat.succ_mul]
    exact KK
/-- the checks -/
theorem lm_l36c (hs : s ≤ 11) (hk : kk ≤ 13) (hxl : m 214 4 = Int32.ofNat xl) (hx6 : xl ≤ 65536) (h1 : m 214 0 = Int32.ofNat rl) (hrl : rl ≤ 65536) : ∃ m1, lm_RF m1 s ∧ (∀ j, j ≠ 4 → j < 67 → m1 203 j = m 203 j) ∧ (∀ q, q ≠ 203 → q ≠ 333 → m1 q = m q) ∧ ∀ R, lm_rn sc (d + 25) lm_m36.2.2.2.2.1 (lm_reg lm_m36.2.2.2.2.2) (76, [(0, .ref 203), (2, .int (ln_kd kk))], [.int (lm_z (decide ((kk = 0 ∨ xl ≤ 255) ∧ (rl = 0 ∨ rl = lm_sn s)))), .ref 203]) (lm_w m1 n x) = some R → lm_cal sc (d + 26) 36 [.ref 203, .int (Int32.ofNat s), .int (ln_kd kk)] (lm_w m n x) = some R := by
  have hpar := lm_spar s hs
  obtain ⟨m1, c1, F1, z1, f1, r1⟩ := lm_u107x (sc := sc) (d := d + 24) (m := lm_u m 203 4 0) (n := n) (x := x) hs
  have u := ln_u96 (sc := sc) (d := d + 24) (m := m1) (n := n) (x := x) hk (by rw [r1 214 (by decide) (by decide), lm_u_row (by decide)]; exact hxl) hx6
  have e0 : m1 214 0 = Int32.ofNat rl := by rw [r1 214 (by decide) (by decide), lm_u_row (by decide)]; exact h1
  refine ⟨m1, F1, fun j h1 h2 => by rw [f1 j h2, lm_u_ne (fun g => h1 g.2)], fun q h1 h2 => by rw [r1 q h1 h2, lm_u_row h1], fun R KK => ?_⟩
  have e75 : ¬ ((kk = 0 ∨ xl ≤ 255) ∧ (rl = 0 ∨ rl = lm_sn s)) → lm_rn sc (d + 25) lm_m36.2.2.2.2.1 (lm_reg lm_m36.2.2.2.2.2) (75, [(0, .ref 203), (2, .int (ln_kd kk))], [.ref 203]) (lm_w m1 n x) = some R := fun g => by
    rw [decide_eq_false g] at KK
    refine lm_e36_75 ?_
    unfold lm_q36_75
    exact KK
  have e71 : ((kk = 0 ∨ xl ≤ 255) ∧ (rl = 0 ∨ rl = lm_sn s)) → lm_rn sc (d + 25) lm_m36.2.2.2.2.1 (lm_reg lm_m36.2.2.2.2.2) (71, [(0, .ref 203), (2, .int (ln_kd kk))], [.ref 203]) (lm_w m1 n x) = some R := fun g => by
    rw [decide_eq_true g] at KK
    refine lm_e36_71 ?_
    unfold lm_q36_71
    exact KK
  refine lm_cal_of (Y := lm_m36) rfl rfl (lm_e36_0 ?_)
  unfold lm_q36_0
  refine lm_cI (lm_t52n (i := s) (d := d + 24) (n := 11) hs (by omega)) ?_
  refine lm_iF (show ¬ (1 : Int32) = 0 by decide) ?_
  refine lm_cI (lm_t52t (d := d + 24) (ln_kd_r hk)) ?_
  refine lm_iF (show ¬ (1 : Int32) = 0 by decide) ?_
  refine lm_e36_26 ?_
  unfold lm_q36_26
  repeat (first
    | ((with_reducible apply lm_sI); exact rfl)
    | ((with_reducible apply lm_sR); exact rfl)
    | ((with_reducible apply lm_sS); exact rfl; exact rfl)
    | ((with_reducible apply lm_sL); exact rfl)
    | ((with_reducible apply lm_sP); exact rfl; exact rfl)
    | ((with_reducible apply lm_sPL); exact rfl; exact rfl)
    | ((with_reducible apply lm_sAA); exact rfl; first | exact rfl | exact lm_roO (by omega) | exact lm_roM (by omega))
    | ((with_reducible apply lm_sI); exact lm_fpL (by omega))
    | ((with_reducible apply lm_sR); exact lm_fpB (by omega))
    | ((with_reducible apply lm_sP); exact lm_fpL (by omega); exact rfl)
    | ((with_reducible apply lm_sS); exact lm_ocO (by omega); exact rfl)
    | ((with_reducible apply lm_sA); exact rfl; omega)
    | ((with_reducible apply lm_sJ); exact rfl; omega)
    | ((with_reducible apply lm_sB); (first | exact rfl | exact lm_arB (by omega) | exact lm_arM (by omega)); omega)
    | ((with_reducible apply lm_wA); exact rfl; omega)
    | ((with_reducible apply lm_wJ); exact rfl; omega)
    | ((with_reducible apply lm_wB); (first | exact rfl | exact lm_arB (by omega) | exact lm_arM (by omega)); omega)
    | ((with_reducible apply lm_sAl); (first | exact rfl | exact lm_arB (by omega) | exact lm_arM (by omega)); omega)
    | ((with_reducible apply lm_iW); decide))
  refine lm_cI (lm_u49 (d := d + 24) true) ?_
  refine lm_iT (show ¬ (1 : Int32) = 0 by decide) ?_
  repeat (first
    | ((with_reducible apply lm_sI); exact rfl)
    | ((with_reducible apply lm_sR); exact rfl)
    | ((with_reducible apply lm_sS); exact rfl; exact rfl)
    | ((with_reducible apply lm_sL); exact rfl)
    | ((with_reducible apply lm_sP); exact rfl; exact rfl)
    | ((with_reducible apply lm_sPL); exact rfl; exact rfl)
    | ((with_reducible apply lm_sAA); exact rfl; first | exact rfl | exact lm_roO (by omega) | exact lm_roM (by omega))
    | ((with_reducible apply lm_sI); exact lm_fpL (by omega))
    | ((with_reducible apply lm_sR); exact lm_fpB (by omega))
    | ((with_reducible apply lm_sP); exact lm_fpL (by omega); exact rfl)
    | ((with_reducible apply lm_sS); exact lm_ocO (by omega); exact rfl)
    | ((with_reducible apply lm_sA); exact rfl; omega)
    | ((with_reducible apply lm_sJ); exact rfl; omega)
    | ((with_reducible apply lm_sB); (first | exact rfl | exact lm_arB (by omega) | exact lm_arM (by omega)); omega)
    | ((with_reducible apply lm_wA); exact rfl; omega)
    | ((with_reducible apply lm_wJ); exact rfl; omega)
    | ((with_reducible apply lm_wB); (first | exact rfl | exact lm_arB (by omega) | exact lm_arM (by omega)); omega)
    | ((with_reducible apply lm_sAl); (first | exact rfl | exact lm_arB (by omega) | exact lm_arM (by omega)); omega)
    | ((with_reducible apply lm_iW); decide))
  refine lm_cV c1 ?_
  repeat (first
    | ((with_reducible apply lm_sI); exact rfl)
    | ((with_reducible apply lm_sR); exact rfl)
    | ((with_reducible apply lm_sS); exact rfl; exact rfl)
    | ((with_reducible apply lm_sL); exact rfl)
    | ((with_reducible apply lm_sP); exact rfl; exact rfl)
    | ((with_reducible apply lm_sPL); exact rfl; exact rfl)
    | ((with_reducible apply lm_sAA); exact rfl; first | exact rfl | exact lm_roO (by omega) | exact lm_roM (by omega))
    | ((with_reducible apply lm_sI); exact lm_fpL (by omega))
    | ((with_reducible apply lm_sR); exact lm_fpB (by omega))
    | ((with_reducible apply lm_sP); exact lm_fpL (by omega); exact rfl)
    | ((with_reducible apply lm_sS); exact lm_ocO (by omega); exact rfl)
    | ((with_reducible apply lm_sA); exact rfl; omega)
    | ((with_reducible apply lm_sJ); exact rfl; omega)
    | ((with_reducible apply lm_sB); (first | exact rfl | exact lm_arB (by omega) | exact lm_arM (by omega)); omega)
    | ((with_reducible apply lm_wA); exact rfl; omega)
    | ((with_reducible apply lm_wJ); exact rfl; omega)
    | ((with_reducible apply lm_wB); (first | exact rfl | exact lm_arB (by omega) | exact lm_arM (by omega)); omega)
    | ((with_reducible apply lm_sAl); (first | exact rfl | exact lm_arB (by omega) | exact lm_arM (by omega)); omega)
    | ((with_reducible apply lm_iW); decide))
  refine lm_cI u ?_
  by_cases y1 : kk = 0 ∨ xl ≤ 255
  · rw [decide_eq_true y1]
    refine lm_iF (show ¬ (1 : Int32) = 0 by decide) ?_
    rw [lm_K0]
    repeat (first
    | ((with_reducible apply lm_sI); exact rfl)
    | ((with_reducible apply lm_sR); exact rfl)
    | ((with_reducible apply lm_sS); exact rfl; exact rfl)
    | ((with_reducible apply lm_sL); exact rfl)
    | ((with_reducible apply lm_sP); exact rfl; exact rfl)
    | ((with_reducible apply lm_sPL); exact rfl; exact rfl)
    | ((with_reducible apply lm_sAA); exact rfl; first | exact rfl | exact lm_roO (by omega) | exact lm_roM (by omega))
    | ((with_reducible apply lm_sI); exact lm_fpL (by omega))
    | ((with_reducible apply lm_sR); exact lm_fpB (by omega))
    | ((with_reducible apply lm_sP); exact lm_fpL (by omega); exact rfl)
    | ((with_reducible apply lm_sS); exact lm_ocO (by omega); exact rfl)
    | ((with_reducible apply lm_sA); exact rfl; omega)
    | ((with_reducible apply lm_sJ); exact rfl; omega)
    | ((with_reducible apply lm_sB); (first | exact rfl | exact lm_arB (by omega) | exact lm_arM (by omega)); omega)
    | ((with_reducible apply lm_wA); exact rfl; omega)
    | ((with_reducible apply lm_wJ); exact rfl; omega)
    | ((with_reducible apply lm_wB); (first | exact rfl | exact lm_arB (by omega) | exact lm_arM (by omega)); omega)
    | ((with_reducible apply lm_sAl); (first | exact rfl | exact lm_arB (by omega) | exact lm_arM (by omega)); omega)
    | ((with_reducible apply lm_iW); decide))
    simp only [Nat.reduceDiv, Nat.reduceMod]
    rw [e0, F1.1]
    by_cases cn : rl = lm_sn s
    · refine lm_eqT (by omega) (by omega) cn ?_
      exact e71 ⟨y1, Or.inr cn⟩
    · refine lm_eqF (by omega) (by omega) cn ?_
      repeat (first
    | ((with_reducible apply lm_sI); exact rfl)
    | ((with_reducible apply lm_sR); exact rfl)
    | ((with_reducible apply lm_sS); exact rfl; exact rfl)
    | ((with_reducible apply lm_sL); exact rfl)
    | ((with_reducible apply lm_sP); exact rfl; exact rfl)
    | ((with_reducible apply lm_sPL); exact rfl; exact rfl)
    | ((with_reducible apply lm_sAA); exact rfl; first | exact rfl | exact lm_roO (by omega) | exact lm_roM (by omega))
    | ((with_reducible apply lm_sI); exact lm_fpL (by omega))
    | ((with_reducible apply lm_sR); exact lm_fpB (by omega))
    | ((with_reducible apply lm_sP); exact lm_fpL (by omega); exact rfl)
    | ((with_reducible apply lm_sS); exact lm_ocO (by omega); exact rfl)
    | ((with_reducible apply lm_sA); exact rfl; omega)
    | ((with_reducible apply lm_sJ); exact rfl; omega)
    | ((with_reducible apply lm_sB); (first | exact rfl | exact lm_arB (by omega) | exact lm_arM (by omega)); omega)
    | ((with_reducible apply lm_wA); exact rfl; omega)
    | ((with_reducible apply lm_wJ); exact rfl; omega)
    | ((with_reducible apply lm_wB); (first | exact rfl | exact lm_arB (by omega) | exact lm_arM (by omega)); omega)
    | ((with_reducible apply lm_sAl); (first | exact rfl | exact lm_arB (by omega) | exact lm_arM (by omega)); omega)
    | ((with_reducible apply lm_iW); decide))
      rw [e0]
      by_cases c0 : rl = 0
      · rw [c0]
        refine lm_iF (show ¬ ¬ Int32.ofNat 0 = 0 by decide) ?_
        exact e71 ⟨y1, Or.inl c0⟩
      · refine lm_neT (b := 0) (by omega) (by omega) c0 ?_
        exact e75 (fun g => by omega)
  · rw [decide_eq_false y1]
    refine lm_iT (show (0 : Int32) = 0 by decide) ?_
    exact e75 (fun g => y1 g.1)
theorem lm_u36e (hs : s ≤ 11) (hk : kk ≤ 13) (hxl : m 214 4 = Int32.ofNat xl) (hx6 : xl ≤ 65536) (h1 : m 214 0 = Int32.ofNat rl) (hrl : rl ≤ 65536) (hn : ¬ ((kk = 0 ∨ xl ≤ 255) ∧ (rl = 0 ∨ rl = lm_sn s))) : ∃ m1, lm_cal sc (d + 26) 36 [.ref 203, .int (Int32.ofNat s), .int (ln_kd kk)] (lm_w m n x) = some (.ok (some (.int 0)), lm_w (lm_u m1 203 4 (Int32.ofInt 2)) n x) ∧ (∀ q, q ≠ 203 → q ≠ 333 → m1 q = m q) ∧ m1 203 3 = m 203 3 := by
  obtain ⟨m1, F1, f1, r1, K1⟩ := lm_l36c (sc := sc) (d := d) (m := m) (n := n) (x := x) hs hk hxl hx6 h1 hrl
  refine ⟨m1, K1 _ (lm_e36_76 ?_), r1, f1 3 (by decide) (by decide)⟩
  rw [decide_eq_false hn]
  unfold lm_q36_76
  repeat (first
    | ((with_reducible apply lm_sI); exact rfl)
    | ((with_reducible apply lm_sR); exact rfl)
    | ((with_reducible apply lm_sS); exact rfl; exact rfl)
    | ((with_reducible apply lm_sL); exact rfl)
    | ((with_reducible apply lm_sP); exact rfl; exact rfl)
    | ((with_reducible apply lm_sPL); exact rfl; exact rfl)
    | ((with_reducible apply lm_sAA); exact rfl; first | exact rfl | exact lm_roO (by omega) | exact lm_roM (by omega))
    | ((with_reducible apply lm_sI); exact lm_fpL (by omega))
    | ((with_reducible apply lm_sR); exact lm_fpB (by omega))
    | ((with_reducible apply lm_sP); exact lm_fpL (by omega); exact rfl)
    | ((with_reducible apply lm_sS); exact lm_ocO (by omega); exact rfl)
    | ((with_reducible apply lm_sA); exact rfl; omega)
    | ((with_reducible apply lm_sJ); exact rfl; omega)
    | ((with_reducible apply lm_sB); (first | exact rfl | exact lm_arB (by omega) | exact lm_arM (by omega)); omega)
    | ((with_reducible apply lm_wA); exact rfl; omega)
    | ((with_reducible apply lm_wJ); exact rfl; omega)
    | ((with_reducible apply lm_wB); (first | exact rfl | exact lm_arB (by omega) | exact lm_arM (by omega)); omega)
    | ((with_reducible apply lm_sAl); (first | exact rfl | exact lm_arB (by omega) | exact lm_arM (by omega)); omega)
    | ((with_reducible apply lm_iW); decide))
  refine lm_cI (lm_u49 (d := d + 24) false) ?_
  refine lm_iT (show (0 : Int32) = 0 by decide) ?_
  exact rfl
theorem lm_l36d {m1 : lm_MI} (hs : s ≤ 11) (F1 : lm_RF m1 s) (h2 : m1 214 2 = Int32.ofNat sl) (hsl : sl ≤ 65536) : ∀ R, lm_rn sc (d + 25) lm_m36.2.2.2.2.1 (lm_reg lm_m36.2.2.2.2.2) (104, [(0, .ref 203), (2, .int (ln_kd kk))], [.int (lm_z (decide (sl = 4 * lm_sn s))), .ref 203]) (lm_w (lm_u m1 203 4 0) n x) = some R → lm_rn sc (d + 25) lm_m36.2.2.2.2.1 (lm_reg lm_m36.2.2.2.2.2) (76, [(0, .ref 203), (2, .int (ln_kd kk))], [.int (lm_z true), .ref 203]) (lm_w m1 n x) = some R := by
  intro R KK
  have hpar := lm_spar s hs
  refine lm_e36_76 ?_
  unfold lm_q36_76
  repeat (first
    | ((with_reducible apply lm_sI); exact rfl)
    | ((with_reducible apply lm_sR); exact rfl)
    | ((with_reducible apply lm_sS); exact rfl; exact rfl)
    | ((with_reducible apply lm_sL); exact rfl)
    | ((with_reducible apply lm_sP); exact rfl; exact rfl)
    | ((with_reducible apply lm_sPL); exact rfl; exact rfl)
    | ((with_reducible apply lm_sAA); exact rfl; first | exact rfl | exact lm_roO (by omega) | exact lm_roM (by omega))
    | ((with_reducible apply lm_sI); exact lm_fpL (by omega))
    | ((with_reducible apply lm_sR); exact lm_fpB (by omega))
    | ((with_reducible apply lm_sP); exact lm_fpL (by omega); exact rfl)
    | ((with_reducible apply lm_sS); exact lm_ocO (by omega); exact rfl)
    | ((with_reducible apply lm_sA); exact rfl; omega)
    | ((with_reducible apply lm_sJ); exact rfl; omega)
    | ((with_reducible apply lm_sB); (first | exact rfl | exact lm_arB (by omega) | exact lm_arM (by omega)); omega)
    | ((with_reducible apply lm_wA); exact rfl; omega)
    | ((with_reducible apply lm_wJ); exact rfl; omega)
    | ((with_reducible apply lm_wB); (first | exact rfl | exact lm_arB (by omega) | exact lm_arM (by omega)); omega)
    | ((with_reducible apply lm_sAl); (first | exact rfl | exact lm_arB (by omega) | exact lm_arM (by omega)); omega)
    | ((with_reducible apply lm_iW); decide))
  refine lm_cI (lm_u49 (d := d + 24) true) ?_
  refine lm_iF (show ¬ (1 : Int32) = 0 by decide) ?_
  rw [lm_K2, lm_K4]
  repeat (first
    | ((with_reducible apply lm_sI); exact rfl)
    | ((with_reducible apply lm_sR); exact rfl)
    | ((with_reducible apply lm_sS); exact rfl; exact rfl)
    | ((with_reducible apply lm_sL); exact rfl)
    | ((with_reducible apply lm_sP); exact rfl; exact rfl)
    | ((with_reducible apply lm_sPL); exact rfl; exact rfl)
    | ((with_reducible apply lm_sAA); exact rfl; first | exact rfl | exact lm_roO (by omega) | exact lm_roM (by omega))
    | ((with_reducible apply lm_sI); exact lm_fpL (by omega))
    | ((with_reducible apply lm_sR); exact lm_fpB (by omega))
    | ((with_reducible apply lm_sP); exact lm_fpL (by omega); exact rfl)
    | ((with_reducible apply lm_sS); exact lm_ocO (by omega); exact rfl)
    | ((with_reducible apply lm_sA); exact rfl; omega)
    | ((with_reducible apply lm_sJ); exact rfl; omega)
    | ((with_reducible apply lm_sB); (first | exact rfl | exact lm_arB (by omega) | exact lm_arM (by omega)); omega)
    | ((with_reducible apply lm_wA); exact rfl; omega)
    | ((with_reducible apply lm_wJ); exact rfl; omega)
    | ((with_reducible apply lm_wB); (first | exact rfl | exact lm_arB (by omega) | exact lm_arM (by omega)); omega)
    | ((with_reducible apply lm_sAl); (first | exact rfl | exact lm_arB (by omega) | exact lm_arM (by omega)); omega)
    | ((with_reducible apply lm_iW); decide))
  simp only [Nat.reduceDiv, Nat.reduceMod]
  rw [lm_u_row (by decide), h2, lm_u_ne (by decide), F1.1, lm_om]
  by_cases c : sl = 4 * lm_sn s
  · rw [decide_eq_true c] at KK
    exact lm_neF (by omega) (by omega) (fun g => g c) KK
  · rw [decide_eq_false c] at KK
    exact lm_neT (by omega) (by omega) c KK
theorem lm_u36g (hs : s ≤ 11) (hk : kk ≤ 13) (hxl : m 214 4 = Int32.ofNat xl) (hx6 : xl ≤ 65536) (hxk : kk = 0 ∨ xl ≤ 255) (h1 : m 214 0 = Int32.ofNat rl) (hrl : rl = 0 ∨ rl = lm_sn s) (h2 : m 214 2 = Int32.ofNat sl) (hsl : sl ≤ 65536) (hn : sl ≠ 4 * lm_sn s) : ∃ m1, lm_cal sc (d + 26) 36 [.ref 203, .int (Int32.ofNat s), .int (ln_kd kk)] (lm_w m n x) = some (.ok (some (.int 0)), lm_w (lm_u m1 203 4 (Int32.ofInt 3)) n x) ∧ (∀ q, q ≠ 203 → q ≠ 333 → m1 q = m q) ∧ m1 203 3 = m 203 3 := by
  have hpar := lm_spar s hs
  obtain ⟨m1, F1, f1, r1, K1⟩ := lm_l36c (sc := sc) (d := d) (m := m) (n := n) (x := x) hs hk hxl hx6 h1 (by omega)
  rw [decide_eq_true ⟨hxk, hrl⟩] at K1
  refine ⟨m1, K1 _ (lm_l36d hs F1 (by rw [r1 214 (by decide) (by decide)]; exact h2) hsl _ (lm_e36_104 ?_)), r1, f1 3 (by decide) (by decide)⟩
  rw [decide_eq_false hn]
  unfold lm_q36_104
  repeat (first
    | ((with_reducible apply lm_sI); exact rfl)
    | ((with_reducible apply lm_sR); exact rfl)
    | ((with_reducible apply lm_sS); exact rfl; exact rfl)
    | ((with_reducible apply lm_sL); exact rfl)
    | ((with_reducible apply lm_sP); exact rfl; exact rfl)
    | ((with_reducible apply lm_sPL); exact rfl; exact rfl)
    | ((with_reducible apply lm_sAA); exact rfl; first | exact rfl | exact lm_roO (by omega) | exact lm_roM (by omega))
    | ((with_reducible apply lm_sI); exact lm_fpL (by omega))
    | ((with_reducible apply lm_sR); exact lm_fpB (by omega))
    | ((with_reducible apply lm_sP); exact lm_fpL (by omega); exact rfl)
    | ((with_reducible apply lm_sS); exact lm_ocO (by omega); exact rfl)
    | ((with_reducible apply lm_sA); exact rfl; omega)
    | ((with_reducible apply lm_sJ); exact rfl; omega)
    | ((with_reducible apply lm_sB); (first | exact rfl | exact lm_arB (by omega) | exact lm_arM (by omega)); omega)
    | ((with_reducible apply lm_wA); exact rfl; omega)
    | ((with_reducible apply lm_wJ); exact rfl; omega)
    | ((with_reducible apply lm_wB); (first | exact rfl | exact lm_arB (by omega) | exact lm_arM (by omega)); omega)
    | ((with_reducible apply lm_sAl); (first | exact rfl | exact lm_arB (by omega) | exact lm_arM (by omega)); omega)
    | ((with_reducible apply lm_iW); decide))
  refine lm_cI (lm_u49 (d := d + 24) false) ?_
  refine lm_iF (show ¬ ¬ (0 : Int32) = 0 by decide) ?_
  rw [lm_uu]
  exact rfl
set_option maxRecDepth 100000 in
theorem lm_u36h (hC : lm_cx m n = C) (hs : s ≤ 11) (hk : kk ≤ 13) (hxl : m 214 4 = Int32.ofNat xl) (hx6 : xl ≤ 65536) (hxk : kk = 0 ∨ xl ≤ 255) (hml : ml ≤ 65536) (hG : lm_Rsg C kk xl ml Sg m) (h1 : m 214 0 = Int32.ofNat rl) (hrl : rl = 0 ∨ rl = lm_sn s) (h2 : m 214 2 = Int32.ofNat (4 * lm_sn s)) (hK : ∀ t, t < 4 * lm_sn s → lm_b8 (m 208 t) = Kb t) (hRn : ∀ t, t < lm_sn s → Rn t = if rl = 0 then Kb (2 * lm_sn s + t) else lm_b8 (m 206 t)) : ∃ m' n', lm_cal sc (d + 26) 36 [.ref 203, .int (Int32.ofNat s), .int (ln_kd kk)] (lm_w m n x) = some (.ok (some (.int (Int32.ofNat (lm_psz s)))), lm_w m' n' x) ∧ (∀ q, q ≠ 203 → q ≠ 211 → q ≠ 214 → q ≠ 227 → q ≠ 228 → q ≠ 229 → q ≠ 265 → (q < 327 ∨ 361 < q) → m' q = m q) ∧ (∀ j, j < 18 → j ≠ 4 → m' 203 j = m 203 j) ∧ (∀ q, q ≠ 203 → q ≠ 223 → q ≠ 224 → q ≠ 225 → q ≠ 226 → q ≠ 230 → n' q = n q) ∧ m' 203 4 = 0 ∧ (∀ j, j ≠ 5 → m' 214 j = m 214 j) ∧ m' 214 5 = Int32.ofNat (lm_psz s) ∧ ∀ t, t < lm_psz s → lm_b8 (m' 211 t) = lm_pkt C s Kb Rn Sg (lm_sgl kk xl ml) t := by
  have hpar := lm_spar s hs
  have hpz := lm_psz_b s hs
  have hps : lm_psz s = lm_sn s + lm_fsz s + lm_sd s * lm_lsz s := rfl
  obtain ⟨m1, F1, f1, r1, K1⟩ := lm_l36c (sc := sc) (d := d) (m := m) (n := n) (x := x) hs hk hxl hx6 h1 (by omega)
  rw [decide_eq_true ⟨hxk, hrl⟩] at K1
  have K2 := lm_l36d (sc := sc) (d := d) (kk := kk) (n := n) (x := x) hs F1 (by rw [r1 214 (by decide) (by decide)]; exact h2) (by omega)
  rw [decide_eq_true rfl] at K2
  generalize eM2 : lm_u m1 203 4 0 = M2 at K2
  have r2 : ∀ r, r ≠ 203 → r ≠ 333 → M2 r = m r := fun r h1 h2 => by rw [← eM2, lm_u_row h1, r1 r h1 h2]
  have t2 : ∀ j, j ≠ 4 → M2 203 j = m1 203 j := fun j hj => by rw [← eM2, lm_u_ne (fun g => hj g.2)]
  have F2 : lm_RF M2 s := by
    unfold lm_RF
    rw [t2 67 (by decide), t2 68 (by decide), t2 69 (by decide), t2 70 (by decide), t2 71 (by decide), t2 72 (by decide), t2 73 (by decide), t2 74 (by decide)]
    exact F1
  have e208 : M2 208 = m 208 := r2 208 (by decide) (by decide)
  have u3 := lm_u75 (sc := sc) (d := d + 24) (m := M2) (n := n) (x := x) (q := 208) (p := 359) (v := 65536) (w := 32) (a := 0) (b := 0) (l := lm_sn s) rfl rfl (by decide) (by omega) (by omega) (by decide) (by decide)
  generalize eM3 : lm_fil M2 359 0 (0 + lm_sn s) (fun i => lm_b8 (M2 208 (0 + (i - 0)))) = M3 at u3
  have r3 : ∀ r, r ≠ 359 → M3 r = M2 r := fun r hr => by rw [← eM3, lm_fl_row hr]
  have u4 := lm_u75 (sc := sc) (d := d + 24) (m := M3) (n := n) (x := x) (q := 208) (p := 358) (v := 65536) (w := 32) (a := 2 * lm_sn s) (b := 0) (l := lm_sn s) rfl rfl (by decide) (by omega) (by omega) (by decide) (by decide)
  generalize eM4 : lm_fil M3 358 0 (0 + lm_sn s) (fun i => lm_b8 (M3 208 (2 * lm_sn s + (i - 0)))) = M4 at u4
  have r4 : ∀ r, r ≠ 358 → M4 r = M3 r := fun r hr => by rw [← eM4, lm_fl_row hr]
  have u5 := lm_u75 (sc := sc) (d := d + 24) (m := M4) (n := n) (x := x) (q := 208) (p := 361) (v := 65536) (w := 32) (a := 3 * lm_sn s) (b := 0) (l := lm_sn s) rfl rfl (by decide) (by omega) (by omega) (by decide) (by decide)
  generalize eM5 : lm_fil M4 361 0 (0 + lm_sn s) (fun i => lm_b8 (M4 208 (3 * lm_sn s + (i - 0)))) = M5 at u5
  have r5 : ∀ r, r ≠ 361 → M5 r = M4 r := fun r hr => by rw [← eM5, lm_fl_row hr]
  have e203 : M5 203 = M2 203 := by rw [r5 203 (by decide), r4 203 (by decide), r3 203 (by decide)]
  have k5 : ∀ r, r ≠ 203 → r ≠ 333 → r ≠ 358 → r ≠ 359 → r ≠ 361 → M5 r = m r := fun r h1 h2 h3 h4 h5 => by rw [r5 r h5, r4 r h3, r3 r h4, r2 r h1 h2]
  have F5 : lm_RF M5 s := by unfold lm_RF; rw [e203]; exact F2
  have C5 : lm_cx M5 n = C := by
    rw [← hC]
    unfold lm_cx lm_tb
    rw [k5 221 (by decide) (by decide) (by decide) (by decide) (by decide)]
  have S5 : ∀ t, t < lm_sn s → lm_b8 (M5 359 t) = Kb t := fun t ht => by
    rw [r5 359 (by decide), r4 359 (by decide), ← eM3, lm_fl_in (by omega), lm_b8b8, e208, Nat.sub_zero, Nat.zero_add]
    exact hK t (by omega)
  have P5 : ∀ t, t < lm_sn s → lm_b8 (M5 358 t) = Kb (2 * lm_sn s + t) := fun t ht => by
    rw [r5 358 (by decide), ← eM4, lm_fl_in (by omega), lm_b8b8, r3 208 (by decide), e208, Nat.sub_zero]
    exact hK _ (by omega)
  have T5 : ∀ t, t < lm_sn s → lm_b8 (M5 361 t) = Kb (3 * lm_sn s + t) := fun t ht => by
    rw [← eM5, lm_fl_in (by omega), lm_b8b8, r4 208 (by decide), r3 208 (by decide), e208, Nat.sub_zero]
    exact hK _ (by omega)
  have key : ∃ m6 n6, (∀ R, lm_rn sc (d + 25) lm_m36.2.2.2.2.1 (lm_reg lm_m36.2.2.2.2.2) (334, [(0, .ref 203), (2, .int (ln_kd kk))], []) (lm_w m6 n6 x) = some R → lm_rn sc (d + 25) lm_m36.2.2.2.2.1 (lm_reg lm_m36.2.2.2.2.2) (202, [(0, .ref 203), (2, .int (ln_kd kk))], [.ref (if rl = 0 then 358 else 206)]) (lm_w M5 n x) = some R) ∧ (∀ r, r ≠ 203 → r ≠ 227 → r ≠ 228 → r ≠ 229 → r ≠ 265 → r ≠ 329 → r ≠ 360 → m6 r = M5 r) ∧ lm_fG M5 n m6 n6 ∧ ∀ t, t < lm_sn s → lm_b8 (m6 265 t) = lm_pRs C s Kb Rn Sg (lm_sgl kk xl ml) t := by
    have hG5 : lm_Rsg C kk xl ml Sg M5 := hG.keep (fun r hr => k5 r (by omega) (by omega) (by omega) (by omega) (by omega))
    have hK5 : ∀ t, t < lm_sn s → lm_b8 (M5 208 (lm_sn s + t)) = Kb (lm_sn s + t) := fun t ht => by rw [k5 208 (by decide) (by decide) (by decide) (by decide) (by decide)]; exact hK _ (by omega)
    by_cases c : rl = 0
    · rw [if_pos c]
      exact lm_l36a (sc := sc) (d := d) (x := x) (m := M5) (n := n) (K := fun t => Kb (lm_sn s + t)) (q0 := 358) (v0 := 32) C5 hs F5 hk hxk hml hG5 hK5 rfl (by decide) (by decide) (by decide) (fun t ht => by rw [hRn t ht, if_pos c]; exact P5 t ht)
    · rw [if_neg c]
      exact lm_l36a (sc := sc) (d := d) (x := x) (m := M5) (n := n) (K := fun t => Kb (lm_sn s + t)) (q0 := 206) (v0 := 65536) C5 hs F5 hk hxk hml hG5 hK5 rfl (by decide) (by decide) (by decide) (fun t ht => by rw [hRn t ht, if_neg c, k5 206 (by decide) (by decide) (by decide) (by decide) (by decide)])
  obtain ⟨m6, n6, K6, f6, g6, v6⟩ := key
  have F6 := g6.RF F5
  have C6 : lm_cx m6 n6 = C := (g6.cx (f6 221 (by decide) (by decide) (by decide) (by decide) (by decide) (by decide) (by decide))).trans C5
  have k6 : ∀ r, r ≠ 203 → r ≠ 227 → r ≠ 228 → r ≠ 229 → r ≠ 265 → (r < 327 ∨ 361 < r) → m6 r = m r := fun r h1 h2 h3 h4 h5 h6 => by rw [f6 r h1 h2 h3 h4 h5 (by omega) (by omega), k5 r h1 (by omega) (by omega) (by omega) (by omega)]
  obtain ⟨m7, n7, c7, f7, g7, v7⟩ := lm_u114 (sc := sc) (d := d + 18) (x := x) (m := m6) (n := n6) (kk := kk) (xl := xl) (ml := ml) (q := 265) (v := 65536) (Rb := lm_pRs C s Kb Rn Sg (lm_sgl kk xl ml)) (QR := lm_pQ s Kb) (Sg := Sg) C6 hs F6 hk hxk hml (hG.keep (fun r hr => k6 r (by omega) (by omega) (by omega) (by omega) (by omega) (by omega))) rfl (by decide) (by decide) (by omega) (by decide) v6 (fun t ht => by rw [f6 358 (by decide) (by decide) (by decide) (by decide) (by decide) (by decide) (by decide)]; exact P5 t ht) (fun t ht => by
    rw [f6 361 (by decide) (by decide) (by decide) (by decide) (by decide) (by decide) (by decide), T5 t ht]
    show _ = Kb (2 * lm_sn s + (lm_sn s + t))
    congr 1
    omega)
  have eD : lm_pD C s Kb Rn Sg (lm_sgl kk xl ml) = lm_plD C s (lm_pRs C s Kb Rn Sg (lm_sgl kk xl ml)) (lm_pQ s Kb) Sg (lm_sgl kk xl ml) := rfl
  rw [← eD] at v7
  unfold lm_pkt
  generalize lm_pD C s Kb Rn Sg (lm_sgl kk xl ml) = D at *
  have F7 := g7.RF F6
  have u115 := lm_u115 (sc := sc) (d := d + 24) (n := n7) (x := x) hs F7 v7
  have u116 := lm_u116 (sc := sc) (d := d + 24) (n := n7) (x := x) hs F7 v7
  have k7 : ∀ r, r ≠ 203 → r ≠ 227 → r ≠ 228 → r ≠ 229 → r ≠ 265 → (r < 327 ∨ 361 < r) → m7 r = m r := fun r h1 h2 h3 h4 h5 h6 => by rw [f7 r h1 h2 h3 h4 (by omega) (by omega) (by omega) (by omega), k6 r h1 h2 h3 h4 h5 h6]
  have Y7 : lm_RY C s (lm_pQ s Kb) Kb m7 n7 := ⟨(g7.cx (f7 221 (by decide) (by decide) (by decide) (by decide) (by decide) (by decide) (by decide) (by decide))).trans C6, F7, fun t ht => by
      rw [f7 358 (by decide) (by decide) (by decide) (by decide) (by decide) (by decide) (by decide) (by decide), f6 358 (by decide) (by decide) (by decide) (by decide) (by decide) (by decide) (by decide), P5 t ht]
      show Kb (2 * lm_sn s + t) = lm_b8 (Kb (2 * lm_sn s + t))
      rw [← P5 t ht, lm_b8b8], fun t ht => by
      rw [f7 359 (by decide) (by decide) (by decide) (by decide) (by decide) (by decide) (by decide) (by decide), f6 359 (by decide) (by decide) (by decide) (by decide) (by decide) (by decide) (by decide), S5 t ht]⟩
  obtain ⟨m8, c8, f8, X8⟩ := lm_plr (sc := sc) (d := d + 24) (x := x) (k := 0) (T := lm_ctn s D) Y7 (by decide)
  have D8 : ∀ t, t < lm_fb s → lm_b8 (m8 356 t) = D t := fun t ht => by rw [f8 356 (by decide)]; exact v7 t (Nat.lt_of_lt_of_le ht (Nat.le_trans (Nat.le_add_right _ _) (Nat.le_add_right _ _)))
  obtain ⟨m9, n9, c9, S9, f9, g9, o9, p9⟩ := lm_u117 (sc := sc) (d := d) (x := x) (W := lm_WL C s (lm_pQ s Kb) Kb 0 (lm_ctn s D)) (u := Int32.ofNat (lm_clf s D)) (D := D) (p := 265) (w := 65536) (b := lm_sn s) hs X8 rfl (by decide) (show lm_sn s + lm_fsz s ≤ 65536 by omega) (by decide) D8
  have p9' : ∀ t, t < lm_fsz s → lm_b8 (m9 265 (lm_sn s + t)) = lm_pF C s (lm_pQ s Kb) Kb D t := p9
  obtain ⟨mA, nA, cA, SA, fA, gA, vA⟩ := lm_u118 (sc := sc) (d := d + 17) (x := x) (W := lm_WL C s (lm_pQ s Kb) Kb 0 (lm_ctn s D)) (u := Int32.ofNat (lm_clf s D)) (D := D) (A := lm_pF C s (lm_pQ s Kb) Kb D) (p := 265) (w := 65536) (b := lm_sn s) hs S9 (fun t ht => by rw [f9 356 (by decide) (by decide) (by decide) (by decide) (by decide)]; exact D8 t ht) rfl (by decide) (show lm_sn s + lm_fsz s ≤ 65536 by omega) (by decide) p9'
  have YA : lm_RY C s (lm_pQ s Kb) Kb mA nA := SA.y
  have eA265 : mA 265 = m9 265 := fA 265 (by decide) (by decide) (by decide) (by decide) (by decide) (by decide)
  have o9' : ∀ i, i < lm_sn s → m9 265 i = m8 265 i := o9
  have loA : ∀ t, t < lm_sn s → lm_b8 (mA 265 t) = lm_pRs C s Kb Rn Sg (lm_sgl kk xl ml) t := fun t ht => by
    rw [eA265, o9' t ht, f8 265 (by decide), f7 265 (by decide) (by decide) (by decide) (by decide) (by decide) (by decide) (by decide) (by decide)]
    exact v6 t ht
  have kA : ∀ r, r ≠ 203 → r ≠ 227 → r ≠ 228 → r ≠ 229 → r ≠ 265 → (r < 327 ∨ 361 < r) → mA r = m r := fun r h1 h2 h3 h4 h5 h6 => by rw [fA r h1 h2 (by omega) (by omega) (by omega) (by omega), f9 r h1 h2 (by omega) (by omega) h5, f8 r (by omega), k7 r h1 h2 h3 h4 h5 h6]
  obtain ⟨mB, nB, ⟨i1, i2, i3, i4, i5, i6⟩, kB⟩ := lm_lp (fr := fun k => (415, [(0, .ref 203), (3, .long (Int64.ofNat (lm_tri s (lm_ctn s D) k))), (5, .int (Int32.ofNat (lm_lfi s (lm_ctn s D) (lm_clf s D) k))), (6, .int (Int32.ofNat (lm_sn s + lm_fsz s + k * lm_lsz s))), (7, .int (Int32.ofNat k))], [])) (lm_l36b (sc := sc) (C := C) (P := lm_pQ s Kb) (S := Kb) (V0 := lm_pV C s (lm_pQ s Kb) Kb D) (b := lm_sn s + lm_fsz s) (d := d) (x := x) (m0 := mA) (n0 := nA) hs (by omega) (lm_ctn_lt (D := D) hs) (lm_clf_lt (D := D) hs)) (lm_sd s) 0 (Nat.zero_add _) mA nA ⟨YA, fun _ _ _ _ _ => rfl, lm_fG.rf, fun _ _ => rfl, fun t ht => absurd ht (by rw [Nat.zero_mul]; omega), vA⟩
  have vB : ∀ t, t < lm_psz s → lm_b8 (mB 265 t) = if t < lm_sn s then lm_pRs C s Kb Rn Sg (lm_sgl kk xl ml) t else if t < lm_sn s + lm_fsz s then lm_pF C s (lm_pQ s Kb) Kb D (t - lm_sn s) else lm_stb C s (lm_pQ s Kb) Kb (lm_ctn s D) (lm_clf s D) (lm_pV C s (lm_pQ s Kb) Kb D) (t - (lm_sn s + lm_fsz s)) := fun t ht => by
    by_cases d1 : t < lm_sn s
    · rw [if_pos d1, i4 t (by omega), loA t d1]
    · rw [if_neg d1]
      by_cases d2 : t < lm_sn s + lm_fsz s
      · have g := p9' (t - lm_sn s) (by omega)
        rw [show lm_sn s + (t - lm_sn s) = t by omega] at g
        rw [if_pos d2, i4 t d2, eA265, g]
      · have g := i5 (t - (lm_sn s + lm_fsz s)) (by omega)
        rw [show lm_sn s + lm_fsz s + (t - (lm_sn s + lm_fsz s)) = t by omega] at g
        rw [if_neg d2, g]
  have uC := lm_u75 (sc := sc) (d := d + 24) (m := mB) (n := nB) (x := x) (q := 265) (p := 211) (v := 65536) (w := 65536) (a := 0) (b := 0) (l := lm_psz s) rfl rfl (by decide) (by omega) (by omega) (by decide) (by decide)
  generalize eMC : lm_fil mB 211 0 (0 + lm_psz s) (fun i => lm_b8 (mB 265 (0 + (i - 0)))) = MC at uC
  have rC : ∀ r, r ≠ 211 → MC r = mB r := fun r hr => by rw [← eMC, lm_fl_row hr]
  generalize eMD : lm_u MC 214 5 (Int32.ofNat (lm_psz s)) = MD
  have rD : ∀ r, r ≠ 211 → r ≠ 214 → MD r = mB r := fun r h1 h2 => by rw [← eMD, lm_u_row h2, rC r h1]
  have FG : lm_fG M5 n mB nB := g6.tr (g7.tr (lm_fG.tr (lm_fG.of (f8 203 (by decide))) (g9.tr (gA.tr i3))))
  refine ⟨MD, nB, K1 _ (K2 _ ?_), fun q q1 q2 q3 q4 q5 q6 q7 q8 => by rw [rD q q2 q3, i2 q q1 q4 q7 (by omega), kA q q1 q4 q5 q6 q7 q8], fun j j1 j2 => by rw [rD 203 (by decide) (by decide), FG.1 j (by omega) (by omega) (by omega), e203, t2 j j2, f1 j j2 (by omega)], FG.2, ?_, fun j hj => ?_, by rw [← eMD, lm_u_eq], fun t ht => ?_⟩
  · have SBf : lm_RF mB s := i1.2.1
    have SAf : lm_RF mA s := YA.2.1
    have S8f : lm_RF m8 s := X8.2.1
    have S9f : lm_RF m9 s := S9.2.1
    have e3 : M3 203 67 = Int32.ofNat (lm_sn s) := by rw [r3 203 (by decide)]; exact F2.1
    have e4 : M4 203 67 = Int32.ofNat (lm_sn s) := by rw [r4 203 (by decide)]; exact e3
    have er : M5 214 0 = Int32.ofNat rl := by rw [k5 214 (by decide) (by decide) (by decide) (by decide) (by decide)]; exact h1
    have er' : ∀ M' : lm_MI, M' 214 = M5 214 → M' 214 0 = Int32.ofNat rl := fun M' e => by rw [e]; exact er
    clear i6 i5 i4 vB loA p9 p9' o9 o9' vA v7 v6 hK hRn S5 P5 T5 D8 K1 K2 eMC
    rw [Nat.zero_mul, Nat.add_zero] at kB
    have e334 : lm_rn sc (d + 25) lm_m36.2.2.2.2.1 (lm_reg lm_m36.2.2.2.2.2) (334, [(0, .ref 203), (2, .int (ln_kd kk))], []) (lm_w m6 n6 x) = some (.ok (some (.int (Int32.ofNat (lm_psz s)))), lm_w MD nB x) := by
      refine lm_e36_334 ?_
      unfold lm_q36_334
      rw [lm_K0, lm_K1]
      repeat (first
    | ((with_reducible apply lm_sI); exact rfl)
    | ((with_reducible apply lm_sR); exact rfl)
    | ((with_reducible apply lm_sS); exact rfl; exact rfl)
    | ((with_reducible apply lm_sL); exact rfl)
    | ((with_reducible apply lm_sP); exact rfl; exact rfl)
    | ((with_reducible apply lm_sPL); exact rfl; exact rfl)
    | ((with_reducible apply lm_sAA); exact rfl; first | exact rfl | exact lm_roO (by omega) | exact lm_roM (by omega))
    | ((with_reducible apply lm_sI); exact lm_fpL (by omega))
    | ((with_reducible apply lm_sR); exact lm_fpB (by omega))
    | ((with_reducible apply lm_sP); exact lm_fpL (by omega); exact rfl)
    | ((with_reducible apply lm_sS); exact lm_ocO (by omega); exact rfl)
    | ((with_reducible apply lm_sA); exact rfl; omega)
    | ((with_reducible apply lm_sJ); exact rfl; omega)
    | ((with_reducible apply lm_sB); (first | exact rfl | exact lm_arB (by omega) | exact lm_arM (by omega)); omega)
    | ((with_reducible apply lm_wA); exact rfl; omega)
    | ((with_reducible apply lm_wJ); exact rfl; omega)
    | ((with_reducible apply lm_wB); (first | exact rfl | exact lm_arB (by omega) | exact lm_arM (by omega)); omega)
    | ((with_reducible apply lm_sAl); (first | exact rfl | exact lm_arB (by omega) | exact lm_arM (by omega)); omega)
    | ((with_reducible apply lm_iW); decide))
      refine lm_cV c7 ?_
      repeat (first
    | ((with_reducible apply lm_sI); exact rfl)
    | ((with_reducible apply lm_sR); exact rfl)
    | ((with_reducible apply lm_sS); exact rfl; exact rfl)
    | ((with_reducible apply lm_sL); exact rfl)
    | ((with_reducible apply lm_sP); exact rfl; exact rfl)
    | ((with_reducible apply lm_sPL); exact rfl; exact rfl)
    | ((with_reducible apply lm_sAA); exact rfl; first | exact rfl | exact lm_roO (by omega) | exact lm_roM (by omega))
    | ((with_reducible apply lm_sI); exact lm_fpL (by omega))
    | ((with_reducible apply lm_sR); exact lm_fpB (by omega))
    | ((with_reducible apply lm_sP); exact lm_fpL (by omega); exact rfl)
    | ((with_reducible apply lm_sS); exact lm_ocO (by omega); exact rfl)
    | ((with_reducible apply lm_sA); exact rfl; omega)
    | ((with_reducible apply lm_sJ); exact rfl; omega)
    | ((with_reducible apply lm_sB); (first | exact rfl | exact lm_arB (by omega) | exact lm_arM (by omega)); omega)
    | ((with_reducible apply lm_wA); exact rfl; omega)
    | ((with_reducible apply lm_wJ); exact rfl; omega)
    | ((with_reducible apply lm_wB); (first | exact rfl | exact lm_arB (by omega) | exact lm_arM (by omega)); omega)
    | ((with_reducible apply lm_sAl); (first | exact rfl | exact lm_arB (by omega) | exact lm_arM (by omega)); omega)
    | ((with_reducible apply lm_iW); decide))
      refine lm_cLg u115 ?_
      repeat (first
    | ((with_reducible apply lm_sI); exact rfl)
    | ((with_reducible apply lm_sR); exact rfl)
    | ((with_reducible apply lm_sS); exact rfl; exact rfl)
    | ((with_reducible apply lm_sL); exact rfl)
    | ((with_reducible apply lm_sP); exact rfl; exact rfl)
    | ((with_reducible apply lm_sPL); exact rfl; exact rfl)
    | ((with_reducible apply lm_sAA); exact rfl; first | exact rfl | exact lm_roO (by omega) | exact lm_roM (by omega))
    | ((with_reducible apply lm_sI); exact lm_fpL (by omega))
    | ((with_reducible apply lm_sR); exact lm_fpB (by omega))
    | ((with_reducible apply lm_sP); exact lm_fpL (by omega); exact rfl)
    | ((with_reducible apply lm_sS); exact lm_ocO (by omega); exact rfl)
    | ((with_reducible apply lm_sA); exact rfl; omega)
    | ((with_reducible apply lm_sJ); exact rfl; omega)
    | ((with_reducible apply lm_sB); (first | exact rfl | exact lm_arB (by omega) | exact lm_arM (by omega)); omega)
    | ((with_reducible apply lm_wA); exact rfl; omega)
    | ((with_reducible apply lm_wJ); exact rfl; omega)
    | ((with_reducible apply lm_wB); (first | exact rfl | exact lm_arB (by omega) | exact lm_arM (by omega)); omega)
    | ((with_reducible apply lm_sAl); (first | exact rfl | exact lm_arB (by omega) | exact lm_arM (by omega)); omega)
    | ((with_reducible apply lm_iW); decide))
      refine lm_cI u116 ?_
      repeat (first
    | ((with_reducible apply lm_sI); exact rfl)
    | ((with_reducible apply lm_sR); exact rfl)
    | ((with_reducible apply lm_sS); exact rfl; exact rfl)
    | ((with_reducible apply lm_sL); exact rfl)
    | ((with_reducible apply lm_sP); exact rfl; exact rfl)
    | ((with_reducible apply lm_sPL); exact rfl; exact rfl)
    | ((with_reducible apply lm_sAA); exact rfl; first | exact rfl | exact lm_roO (by omega) | exact lm_roM (by omega))
    | ((with_reducible apply lm_sI); exact lm_fpL (by omega))
    | ((with_reducible apply lm_sR); exact lm_fpB (by omega))
    | ((with_reducible apply lm_sP); exact lm_fpL (by omega); exact rfl)
    | ((with_reducible apply lm_sS); exact lm_ocO (by omega); exact rfl)
    | ((with_reducible apply lm_sA); exact rfl; omega)
    | ((with_reducible apply lm_sJ); exact rfl; omega)
    | ((with_reducible apply lm_sB); (first | exact rfl | exact lm_arB (by omega) | exact lm_arM (by omega)); omega)
    | ((with_reducible apply lm_wA); exact rfl; omega)
    | ((with_reducible apply lm_wJ); exact rfl; omega)
    | ((with_reducible apply lm_wB); (first | exact rfl | exact lm_arB (by omega) | exact lm_arM (by omega)); omega)
    | ((with_reducible apply lm_sAl); (first | exact rfl | exact lm_arB (by omega) | exact lm_arM (by omega)); omega)
    | ((with_reducible apply lm_iW); decide))
      refine lm_cV c8 ?_
      repeat (first
    | ((with_reducible apply lm_sI); exact rfl)
    | ((with_reducible apply lm_sR); exact rfl)
    | ((with_reducible apply lm_sS); exact rfl; exact rfl)
    | ((with_reducible apply lm_sL); exact rfl)
    | ((with_reducible apply lm_sP); exact rfl; exact rfl)
    | ((with_reducible apply lm_sPL); exact rfl; exact rfl)
    | ((with_reducible apply lm_sAA); exact rfl; first | exact rfl | exact lm_roO (by omega) | exact lm_roM (by omega))
    | ((with_reducible apply lm_sI); exact lm_fpL (by omega))
    | ((with_reducible apply lm_sR); exact lm_fpB (by omega))
    | ((with_reducible apply lm_sP); exact lm_fpL (by omega); exact rfl)
    | ((with_reducible apply lm_sS); exact lm_ocO (by omega); exact rfl)
    | ((with_reducible apply lm_sA); exact rfl; omega)
    | ((with_reducible apply lm_sJ); exact rfl; omega)
    | ((with_reducible apply lm_sB); (first | exact rfl | exact lm_arB (by omega) | exact lm_arM (by omega)); omega)
    | ((with_reducible apply lm_wA); exact rfl; omega)
    | ((with_reducible apply lm_wJ); exact rfl; omega)
    | ((with_reducible apply lm_wB); (first | exact rfl | exact lm_arB (by omega) | exact lm_arM (by omega)); omega)
    | ((with_reducible apply lm_sAl); (first | exact rfl | exact lm_arB (by omega) | exact lm_arM (by omega)); omega)
    | ((with_reducible apply lm_iW); decide))
      simp only [Nat.reduceDiv, Nat.reduceMod]
      rw [S8f.1]
      refine lm_cV c9 ?_
      repeat (first
    | ((with_reducible apply lm_sI); exact rfl)
    | ((with_reducible apply lm_sR); exact rfl)
    | ((with_reducible apply lm_sS); exact rfl; exact rfl)
    | ((with_reducible apply lm_sL); exact rfl)
    | ((with_reducible apply lm_sP); exact rfl; exact rfl)
    | ((with_reducible apply lm_sPL); exact rfl; exact rfl)
    | ((with_reducible apply lm_sAA); exact rfl; first | exact rfl | exact lm_roO (by omega) | exact lm_roM (by omega))
    | ((with_reducible apply lm_sI); exact lm_fpL (by omega))
    | ((with_reducible apply lm_sR); exact lm_fpB (by omega))
    | ((with_reducible apply lm_sP); exact lm_fpL (by omega); exact rfl)
    | ((with_reducible apply lm_sS); exact lm_ocO (by omega); exact rfl)
    | ((with_reducible apply lm_sA); exact rfl; omega)
    | ((with_reducible apply lm_sJ); exact rfl; omega)
    | ((with_reducible apply lm_sB); (first | exact rfl | exact lm_arB (by omega) | exact lm_arM (by omega)); omega)
    | ((with_reducible apply lm_wA); exact rfl; omega)
    | ((with_reducible apply lm_wJ); exact rfl; omega)
    | ((with_reducible apply lm_wB); (first | exact rfl | exact lm_arB (by omega) | exact lm_arM (by omega)); omega)
    | ((with_reducible apply lm_sAl); (first | exact rfl | exact lm_arB (by omega) | exact lm_arM (by omega)); omega)
    | ((with_reducible apply lm_iW); decide))
      simp only [Nat.reduceDiv, Nat.reduceMod]
      rw [S9f.1]
      refine lm_cV cA ?_
      repeat (first
    | ((with_reducible apply lm_sI); exact rfl)
    | ((with_reducible apply lm_sR); exact rfl)
    | ((with_reducible apply lm_sS); exact rfl; exact rfl)
    | ((with_reducible apply lm_sL); exact rfl)
    | ((with_reducible apply lm_sP); exact rfl; exact rfl)
    | ((with_reducible apply lm_sPL); exact rfl; exact rfl)
    | ((with_reducible apply lm_sAA); exact rfl; first | exact rfl | exact lm_roO (by omega) | exact lm_roM (by omega))
    | ((with_reducible apply lm_sI); exact lm_fpL (by omega))
    | ((with_reducible apply lm_sR); exact lm_fpB (by omega))
    | ((with_reducible apply lm_sP); exact lm_fpL (by omega); exact rfl)
    | ((with_reducible apply lm_sS); exact lm_ocO (by omega); exact rfl)
    | ((with_reducible apply lm_sA); exact rfl; omega)
    | ((with_reducible apply lm_sJ); exact rfl; omega)
    | ((with_reducible apply lm_sB); (first | exact rfl | exact lm_arB (by omega) | exact lm_arM (by omega)); omega)
    | ((with_reducible apply lm_wA); exact rfl; omega)
    | ((with_reducible apply lm_wJ); exact rfl; omega)
    | ((with_reducible apply lm_wB); (first | exact rfl | exact lm_arB (by omega) | exact lm_arM (by omega)); omega)
    | ((with_reducible apply lm_sAl); (first | exact rfl | exact lm_arB (by omega) | exact lm_arM (by omega)); omega)
    | ((with_reducible apply lm_iW); decide))
      simp only [Nat.reduceDiv, Nat.reduceMod]
      rw [SAf.1, SAf.2.2.2.2.1, SAf.2.2.2.2.2.1, lm_fsn]
      refine kB _ ?_
      refine lm_e36_415 ?_
      unfold lm_q36_415
      rw [lm_K0]
      repeat (first
    | ((with_reducible apply lm_sI); exact rfl)
    | ((with_reducible apply lm_sR); exact rfl)
    | ((with_reducible apply lm_sS); exact rfl; exact rfl)
    | ((with_reducible apply lm_sL); exact rfl)
    | ((with_reducible apply lm_sP); exact rfl; exact rfl)
    | ((with_reducible apply lm_sPL); exact rfl; exact rfl)
    | ((with_reducible apply lm_sAA); exact rfl; first | exact rfl | exact lm_roO (by omega) | exact lm_roM (by omega))
    | ((with_reducible apply lm_sI); exact lm_fpL (by omega))
    | ((with_reducible apply lm_sR); exact lm_fpB (by omega))
    | ((with_reducible apply lm_sP); exact lm_fpL (by omega); exact rfl)
    | ((with_reducible apply lm_sS); exact lm_ocO (by omega); exact rfl)
    | ((with_reducible apply lm_sA); exact rfl; omega)
    | ((with_reducible apply lm_sJ); exact rfl; omega)
    | ((with_reducible apply lm_sB); (first | exact rfl | exact lm_arB (by omega) | exact lm_arM (by omega)); omega)
    | ((with_reducible apply lm_wA); exact rfl; omega)
    | ((with_reducible apply lm_wJ); exact rfl; omega)
    | ((with_reducible apply lm_wB); (first | exact rfl | exact lm_arB (by omega) | exact lm_arM (by omega)); omega)
    | ((with_reducible apply lm_sAl); (first | exact rfl | exact lm_arB (by omega) | exact lm_arM (by omega)); omega)
    | ((with_reducible apply lm_iW); decide))
      simp only [Nat.reduceDiv, Nat.reduceMod]
      rw [SBf.2.2.1]
      refine lm_geT (by omega) (by omega) (Nat.le_refl _) ?_
      rw [lm_K5]
      repeat (first
    | ((with_reducible apply lm_sI); exact rfl)
    | ((with_reducible apply lm_sR); exact rfl)
    | ((with_reducible apply lm_sS); exact rfl; exact rfl)
    | ((with_reducible apply lm_sL); exact rfl)
    | ((with_reducible apply lm_sP); exact rfl; exact rfl)
    | ((with_reducible apply lm_sPL); exact rfl; exact rfl)
    | ((with_reducible apply lm_sAA); exact rfl; first | exact rfl | exact lm_roO (by omega) | exact lm_roM (by omega))
    | ((with_reducible apply lm_sI); exact lm_fpL (by omega))
    | ((with_reducible apply lm_sR); exact lm_fpB (by omega))
    | ((with_reducible apply lm_sP); exact lm_fpL (by omega); exact rfl)
    | ((with_reducible apply lm_sS); exact lm_ocO (by omega); exact rfl)
    | ((with_reducible apply lm_sA); exact rfl; omega)
    | ((with_reducible apply lm_sJ); exact rfl; omega)
    | ((with_reducible apply lm_sB); (first | exact rfl | exact lm_arB (by omega) | exact lm_arM (by omega)); omega)
    | ((with_reducible apply lm_wA); exact rfl; omega)
    | ((with_reducible apply lm_wJ); exact rfl; omega)
    | ((with_reducible apply lm_wB); (first | exact rfl | exact lm_arB (by omega) | exact lm_arM (by omega)); omega)
    | ((with_reducible apply lm_sAl); (first | exact rfl | exact lm_arB (by omega) | exact lm_arM (by omega)); omega)
    | ((with_reducible apply lm_iW); decide))
      refine lm_cV uC ?_
      repeat (first
    | ((with_reducible apply lm_sI); exact rfl)
    | ((with_reducible apply lm_sR); exact rfl)
    | ((with_reducible apply lm_sS); exact rfl; exact rfl)
    | ((with_reducible apply lm_sL); exact rfl)
    | ((with_reducible apply lm_sP); exact rfl; exact rfl)
    | ((with_reducible apply lm_sPL); exact rfl; exact rfl)
    | ((with_reducible apply lm_sAA); exact rfl; first | exact rfl | exact lm_roO (by omega) | exact lm_roM (by omega))
    | ((with_reducible apply lm_sI); exact lm_fpL (by omega))
    | ((with_reducible apply lm_sR); exact lm_fpB (by omega))
    | ((with_reducible apply lm_sP); exact lm_fpL (by omega); exact rfl)
    | ((with_reducible apply lm_sS); exact lm_ocO (by omega); exact rfl)
    | ((with_reducible apply lm_sA); exact rfl; omega)
    | ((with_reducible apply lm_sJ); exact rfl; omega)
    | ((with_reducible apply lm_sB); (first | exact rfl | exact lm_arB (by omega) | exact lm_arM (by omega)); omega)
    | ((with_reducible apply lm_wA); exact rfl; omega)
    | ((with_reducible apply lm_wJ); exact rfl; omega)
    | ((with_reducible apply lm_wB); (first | exact rfl | exact lm_arB (by omega) | exact lm_arM (by omega)); omega)
    | ((with_reducible apply lm_sAl); (first | exact rfl | exact lm_arB (by omega) | exact lm_arM (by omega)); omega)
    | ((with_reducible apply lm_iW); decide))
      rw [show lm_sn s + lm_fsz s + lm_sd s * lm_lsz s = lm_psz s from rfl, eMD]
      exact rfl
    refine lm_e36_104 ?_
    unfold lm_q36_104
    repeat (first
    | ((with_reducible apply lm_sI); exact rfl)
    | ((with_reducible apply lm_sR); exact rfl)
    | ((with_reducible apply lm_sS); exact rfl; exact rfl)
    | ((with_reducible apply lm_sL); exact rfl)
    | ((with_reducible apply lm_sP); exact rfl; exact rfl)
    | ((with_reducible apply lm_sPL); exact rfl; exact rfl)
    | ((with_reducible apply lm_sAA); exact rfl; first | exact rfl | exact lm_roO (by omega) | exact lm_roM (by omega))
    | ((with_reducible apply lm_sI); exact lm_fpL (by omega))
    | ((with_reducible apply lm_sR); exact lm_fpB (by omega))
    | ((with_reducible apply lm_sP); exact lm_fpL (by omega); exact rfl)
    | ((with_reducible apply lm_sS); exact lm_ocO (by omega); exact rfl)
    | ((with_reducible apply lm_sA); exact rfl; omega)
    | ((with_reducible apply lm_sJ); exact rfl; omega)
    | ((with_reducible apply lm_sB); (first | exact rfl | exact lm_arB (by omega) | exact lm_arM (by omega)); omega)
    | ((with_reducible apply lm_wA); exact rfl; omega)
    | ((with_reducible apply lm_wJ); exact rfl; omega)
    | ((with_reducible apply lm_wB); (first | exact rfl | exact lm_arB (by omega) | exact lm_arM (by omega)); omega)
    | ((with_reducible apply lm_sAl); (first | exact rfl | exact lm_arB (by omega) | exact lm_arM (by omega)); omega)
    | ((with_reducible apply lm_iW); decide))
    refine lm_cI (lm_u49 (d := d + 24) true) ?_
    refine lm_iT (show ¬ (1 : Int32) = 0 by decide) ?_
    rw [show lm_u M2 203 4 (cond true 0 (Int32.ofInt 3)) = M2 by rw [← eM2, lm_uu]; rfl]
    rw [lm_K0, lm_K2, lm_K3]
    repeat (first
    | ((with_reducible apply lm_sI); exact rfl)
    | ((with_reducible apply lm_sR); exact rfl)
    | ((with_reducible apply lm_sS); exact rfl; exact rfl)
    | ((with_reducible apply lm_sL); exact rfl)
    | ((with_reducible apply lm_sP); exact rfl; exact rfl)
    | ((with_reducible apply lm_sPL); exact rfl; exact rfl)
    | ((with_reducible apply lm_sAA); exact rfl; first | exact rfl | exact lm_roO (by omega) | exact lm_roM (by omega))
    | ((with_reducible apply lm_sI); exact lm_fpL (by omega))
    | ((with_reducible apply lm_sR); exact lm_fpB (by omega))
    | ((with_reducible apply lm_sP); exact lm_fpL (by omega); exact rfl)
    | ((with_reducible apply lm_sS); exact lm_ocO (by omega); exact rfl)
    | ((with_reducible apply lm_sA); exact rfl; omega)
    | ((with_reducible apply lm_sJ); exact rfl; omega)
    | ((with_reducible apply lm_sB); (first | exact rfl | exact lm_arB (by omega) | exact lm_arM (by omega)); omega)
    | ((with_reducible apply lm_wA); exact rfl; omega)
    | ((with_reducible apply lm_wJ); exact rfl; omega)
    | ((with_reducible apply lm_wB); (first | exact rfl | exact lm_arB (by omega) | exact lm_arM (by omega)); omega)
    | ((with_reducible apply lm_sAl); (first | exact rfl | exact lm_arB (by omega) | exact lm_arM (by omega)); omega)
    | ((with_reducible apply lm_iW); decide))
    simp only [Nat.reduceDiv, Nat.reduceMod]
    rw [F2.1]
    refine lm_cV u3 ?_
    repeat (first
    | ((with_reducible apply lm_sI); exact rfl)
    | ((with_reducible apply lm_sR); exact rfl)
    | ((with_reducible apply lm_sS); exact rfl; exact rfl)
    | ((with_reducible apply lm_sL); exact rfl)
    | ((with_reducible apply lm_sP); exact rfl; exact rfl)
    | ((with_reducible apply lm_sPL); exact rfl; exact rfl)
    | ((with_reducible apply lm_sAA); exact rfl; first | exact rfl | exact lm_roO (by omega) | exact lm_roM (by omega))
    | ((with_reducible apply lm_sI); exact lm_fpL (by omega))
    | ((with_reducible apply lm_sR); exact lm_fpB (by omega))
    | ((with_reducible apply lm_sP); exact lm_fpL (by omega); exact rfl)
    | ((with_reducible apply lm_sS); exact lm_ocO (by omega); exact rfl)
    | ((with_reducible apply lm_sA); exact rfl; omega)
    | ((with_reducible apply lm_sJ); exact rfl; omega)
    | ((with_reducible apply lm_sB); (first | exact rfl | exact lm_arB (by omega) | exact lm_arM (by omega)); omega)
    | ((with_reducible apply lm_wA); exact rfl; omega)
    | ((with_reducible apply lm_wJ); exact rfl; omega)
    | ((with_reducible apply lm_wB); (first | exact rfl | exact lm_arB (by omega) | exact lm_arM (by omega)); omega)
    | ((with_reducible apply lm_sAl); (first | exact rfl | exact lm_arB (by omega) | exact lm_arM (by omega)); omega)
    | ((with_reducible apply lm_iW); decide))
    simp only [Nat.reduceDiv, Nat.reduceMod]
    rw [e3, lm_om]
    refine lm_cV u4 ?_
    repeat (first
    | ((with_reducible apply lm_sI); exact rfl)
    | ((with_reducible apply lm_sR); exact rfl)
    | ((with_reducible apply lm_sS); exact rfl; exact rfl)
    | ((with_reducible apply lm_sL); exact rfl)
    | ((with_reducible apply lm_sP); exact rfl; exact rfl)
    | ((with_reducible apply lm_sPL); exact rfl; exact rfl)
    | ((with_reducible apply lm_sAA); exact rfl; first | exact rfl | exact lm_roO (by omega) | exact lm_roM (by omega))
    | ((with_reducible apply lm_sI); exact lm_fpL (by omega))
    | ((with_reducible apply lm_sR); exact lm_fpB (by omega))
    | ((with_reducible apply lm_sP); exact lm_fpL (by omega); exact rfl)
    | ((with_reducible apply lm_sS); exact lm_ocO (by omega); exact rfl)
    | ((with_reducible apply lm_sA); exact rfl; omega)
    | ((with_reducible apply lm_sJ); exact rfl; omega)
    | ((with_reducible apply lm_sB); (first | exact rfl | exact lm_arB (by omega) | exact lm_arM (by omega)); omega)
    | ((with_reducible apply lm_wA); exact rfl; omega)
    | ((with_reducible apply lm_wJ); exact rfl; omega)
    | ((with_reducible apply lm_wB); (first | exact rfl | exact lm_arB (by omega) | exact lm_arM (by omega)); omega)
    | ((with_reducible apply lm_sAl); (first | exact rfl | exact lm_arB (by omega) | exact lm_arM (by omega)); omega)
    | ((with_reducible apply lm_iW); decide))
    simp only [Nat.reduceDiv, Nat.reduceMod]
    rw [e4, lm_om]
    refine lm_cV u5 ?_
    repeat (first
    | ((with_reducible apply lm_sI); exact rfl)
    | ((with_reducible apply lm_sR); exact rfl)
    | ((with_reducible apply lm_sS); exact rfl; exact rfl)
    | ((with_reducible apply lm_sL); exact rfl)
    | ((with_reducible apply lm_sP); exact rfl; exact rfl)
    | ((with_reducible apply lm_sPL); exact rfl; exact rfl)
    | ((with_reducible apply lm_sAA); exact rfl; first | exact rfl | exact lm_roO (by omega) | exact lm_roM (by omega))
    | ((with_reducible apply lm_sI); exact lm_fpL (by omega))
    | ((with_reducible apply lm_sR); exact lm_fpB (by omega))
    | ((with_reducible apply lm_sP); exact lm_fpL (by omega); exact rfl)
    | ((with_reducible apply lm_sS); exact lm_ocO (by omega); exact rfl)
    | ((with_reducible apply lm_sA); exact rfl; omega)
    | ((with_reducible apply lm_sJ); exact rfl; omega)
    | ((with_reducible apply lm_sB); (first | exact rfl | exact lm_arB (by omega) | exact lm_arM (by omega)); omega)
    | ((with_reducible apply lm_wA); exact rfl; omega)
    | ((with_reducible apply lm_wJ); exact rfl; omega)
    | ((with_reducible apply lm_wB); (first | exact rfl | exact lm_arB (by omega) | exact lm_arM (by omega)); omega)
    | ((with_reducible apply lm_sAl); (first | exact rfl | exact lm_arB (by omega) | exact lm_arM (by omega)); omega)
    | ((with_reducible apply lm_iW); decide))
    rw [er]
    by_cases c : rl = 0
    · rw [c]
      refine lm_iF (show ¬ ¬ Int32.ofNat 0 = 0 by decide) ?_
      rw [if_pos c] at K6
      repeat (first
    | ((with_reducible apply lm_sI); exact rfl)
    | ((with_reducible apply lm_sR); exact rfl)
    | ((with_reducible apply lm_sS); exact rfl; exact rfl)
    | ((with_reducible apply lm_sL); exact rfl)
    | ((with_reducible apply lm_sP); exact rfl; exact rfl)
    | ((with_reducible apply lm_sPL); exact rfl; exact rfl)
    | ((with_reducible apply lm_sAA); exact rfl; first | exact rfl | exact lm_roO (by omega) | exact lm_roM (by omega))
    | ((with_reducible apply lm_sI); exact lm_fpL (by omega))
    | ((with_reducible apply lm_sR); exact lm_fpB (by omega))
    | ((with_reducible apply lm_sP); exact lm_fpL (by omega); exact rfl)
    | ((with_reducible apply lm_sS); exact lm_ocO (by omega); exact rfl)
    | ((with_reducible apply lm_sA); exact rfl; omega)
    | ((with_reducible apply lm_sJ); exact rfl; omega)
    | ((with_reducible apply lm_sB); (first | exact rfl | exact lm_arB (by omega) | exact lm_arM (by omega)); omega)
    | ((with_reducible apply lm_wA); exact rfl; omega)
    | ((with_reducible apply lm_wJ); exact rfl; omega)
    | ((with_reducible apply lm_wB); (first | exact rfl | exact lm_arB (by omega) | exact lm_arM (by omega)); omega)
    | ((with_reducible apply lm_sAl); (first | exact rfl | exact lm_arB (by omega) | exact lm_arM (by omega)); omega)
    | ((with_reducible apply lm_iW); decide))
      exact K6 _ e334
    · refine lm_neT (b := 0) (by omega) (by omega) c ?_
      rw [if_neg c] at K6
      repeat (first
    | ((with_reducible apply lm_sI); exact rfl)
    | ((with_reducible apply lm_sR); exact rfl)
    | ((with_reducible apply lm_sS); exact rfl; exact rfl)
    | ((with_reducible apply lm_sL); exact rfl)
    | ((with_reducible apply lm_sP); exact rfl; exact rfl)
    | ((with_reducible apply lm_sPL); exact rfl; exact rfl)
    | ((with_reducible apply lm_sAA); exact rfl; first | exact rfl | exact lm_roO (by omega) | exact lm_roM (by omega))
    | ((with_reducible apply lm_sI); exact lm_fpL (by omega))
    | ((with_reducible apply lm_sR); exact lm_fpB (by omega))
    | ((with_reducible apply lm_sP); exact lm_fpL (by omega); exact rfl)
    | ((with_reducible apply lm_sS); exact lm_ocO (by omega); exact rfl)
    | ((with_reducible apply lm_sA); exact rfl; omega)
    | ((with_reducible apply lm_sJ); exact rfl; omega)
    | ((with_reducible apply lm_sB); (first | exact rfl | exact lm_arB (by omega) | exact lm_arM (by omega)); omega)
    | ((with_reducible apply lm_wA); exact rfl; omega)
    | ((with_reducible apply lm_wJ); exact rfl; omega)
    | ((with_reducible apply lm_wB); (first | exact rfl | exact lm_arB (by omega) | exact lm_arM (by omega)); omega)
    | ((with_reducible apply lm_sAl); (first | exact rfl | exact lm_arB (by omega) | exact lm_arM (by omega)); omega)
    | ((with_reducible apply lm_iW); decide))
      exact K6 _ e334
  · rw [rD 203 (by decide) (by decide), FG.1 4 (by decide) (by decide) (by decide), e203, ← eM2, lm_u_eq]
  · rw [← eMD, lm_u_ne (fun g => hj g.2), rC 214 (by decide), i2 214 (by decide) (by decide) (by decide) (by decide), kA 214 (by decide) (by decide) (by decide) (by decide) (by decide) (by decide)]
  · rw [← eMD, lm_u_row (by decide), ← eMC, lm_fl_in (by omega), lm_b8b8, Nat.sub_zero, Nat.zero_add, vB t ht]
end LMUL
