/-! ===== slhVerify of the reference ===== -/
def lm_RY (C : lm_CX) (s : Nat) (P S : Nat → Int32) (m : lm_MI) (n : lm_ML) : Prop := lm_cx m n = C ∧ lm_RF m s ∧ (∀ t, t < lm_sn s → lm_b8 (m 358 t) = lm_b8 (P t)) ∧ (∀ t, t < lm_sn s → lm_b8 (m 359 t) = S t)
theorem lm_RX.y {W : lm_WT} {m : lm_MI} {n : lm_ML} (h : lm_RX W m n) : lm_RY W.1 W.2.1 W.2.2.1 W.2.2.2.1 m n := ⟨h.1, h.2.1, h.2.2.1, h.2.2.2.1⟩
theorem lm_RY.keep {C : lm_CX} {s : Nat} {P S : Nat → Int32} {m m' : lm_MI} {n n' : lm_ML} (h : lm_RY C s P S m n) (f : lm_fG m n m' n') (e1 : m' 221 = m 221) (e2 : m' 358 = m 358) (e3 : m' 359 = m 359) : lm_RY C s P S m' n' := ⟨(f.cx e1).trans h.1, f.RF h.2.1, by rw [e2]; exact h.2.2.1, by rw [e3]; exact h.2.2.2⟩
theorem lm_psz_e : ∀ s, s ≤ 11 → lm_sn s * (1 + ln_sT s * (1 + lm_sa s) + lm_sHt s + lm_sd s * lm_cw s) = lm_psz s := by decide
theorem lm_psn {s : Nat} (hs : s ≤ 11) : Int32.ofNat (lm_sn s) * (((Int32.ofNat 1 + Int32.ofNat (ln_sT s) * (Int32.ofNat 1 + Int32.ofNat (lm_sa s))) + Int32.ofNat (lm_sHt s)) + Int32.ofNat (lm_sd s) * Int32.ofNat (lm_cw s)) = Int32.ofNat (lm_psz s) := by
  rw [lm_oo, lm_om, lm_oo, lm_om, lm_oo, lm_oo, lm_om, lm_psz_e s hs]
theorem lm_fsn {s : Nat} : Int32.ofNat (lm_sn s) + (Int32.ofNat (ln_sT s) * (Int32.ofNat 1 + Int32.ofNat (lm_sa s))) * Int32.ofNat (lm_sn s) = Int32.ofNat (lm_sn s + lm_fsz s) := by
  rw [lm_oo, lm_om, lm_om, lm_oo, Nat.mul_assoc, Nat.mul_comm (1 + lm_sa s)]
  rfl
section LMUI
variable {sc : lm_H} {xs : List Int32} {C : lm_CX} {d s kk xl ml pl sl : Nat} {m m' : lm_MI} {n n' : lm_ML} {x : lm_H × Nat × Nat} {P S V0 A QR Sg D : Nat → Int32} {T0 l0 : Nat} {v w : Int32}
theorem lm_plr {k T : Nat} (h : lm_RY C s P S m n) (hk : k < 64) : ∃ m', lm_cal sc (d + 1) 108 [.ref 203, .int (Int32.ofNat k), .long (Int64.ofNat T)] (lm_w m n x) = some (.ok none, lm_w m' n x) ∧ (∀ r, r ≠ 333 → m' r = m r) ∧ lm_RX (lm_WL C s P S k T) m' n := by
  obtain ⟨m1, c1, f1, a1⟩ := lm_u108 (sc := sc) (d := d) (m := m) (n := n) (x := x) (L := Int32.ofNat k) (T := Int64.ofNat T)
  have F1 : lm_fG m n m1 n := lm_fG.of (f1 203 (by decide))
  exact ⟨m1, c1, f1, (F1.cx (f1 221 (by decide))).trans h.1, F1.RF h.2.1, fun t ht => by rw [f1 358 (by decide)]; exact h.2.2.1 t ht, fun t ht => by rw [f1 359 (by decide)]; exact h.2.2.2 t ht, a1, lm_s3n k hk⟩
theorem lm_tmk {h T : Nat} (hT : T < 18446744073709551616) (hh : h < 32) : Int64.toInt32 (Int64.ofNat T &&& (((Int64.ofNat 1) <<< ((Int32.toInt64 (Int32.ofNat h)) &&& 63)) - (Int64.ofNat 1))) = Int32.ofNat (T % 2 ^ h) := by
  rw [lm_msk6 (by omega), lm_and6 hT (by omega), lm_l2i]
def lm_J38 (C : lm_CX) (s : Nat) (P S : Nat → Int32) (T0 l0 : Nat) (V0 A : Nat → Int32) (m0 : lm_MI) (n0 : lm_ML) (k : Nat) (m : lm_MI) (n : lm_ML) : Prop := lm_RY C s P S m n ∧ (∀ r, r ≠ 203 → r ≠ 227 → (r < 333 ∨ 360 < r) → m r = m0 r) ∧ lm_fG m0 n0 m n ∧ ∀ t, t < lm_sn s → lm_b8 (m 354 t) = lm_vvk C s P S T0 l0 V0 A k t
theorem lm_l38 (hs : s ≤ 11) {m0 : lm_MI} {n0 : lm_ML} (hA : ∀ t, t < lm_psz s → lm_b8 (m0 211 t) = A t) (hT : T0 < 18446744073709551616) (hl : l0 < 512) : ∀ k, k < lm_sd s → ∀ m n, lm_J38 C s P S T0 l0 V0 A m0 n0 k m n → ∃ m' n', lm_J38 C s P S T0 l0 V0 A m0 n0 (k + 1) m' n' ∧ ∀ R, lm_rn sc (d + 8) lm_m38.2.2.2.2.1 (lm_reg lm_m38.2.2.2.2.2) (239, [(0, .ref 203), (3, .long (Int64.ofNat (lm_tri s T0 (k + 1)))), (5, .int (Int32.ofNat (lm_lfi s T0 l0 (k + 1)))), (6, .int (Int32.ofNat (lm_sn s + lm_fsz s + (k + 1) * lm_lsz s))), (7, .int (Int32.ofNat (k + 1)))], []) (lm_w m' n' x) = some R → lm_rn sc (d + 8) lm_m38.2.2.2.2.1 (lm_reg lm_m38.2.2.2.2.2) (239, [(0, .ref 203), (3, .long (Int64.ofNat (lm_tri s T0 k))), (5, .int (Int32.ofNat (lm_lfi s T0 l0 k))), (6, .int (Int32.ofNat (lm_sn s + lm_fsz s + k * lm_lsz s))), (7, .int (Int32.ofNat k))], []) (lm_w m n x) = some R := by
  intro k hk m n ⟨i1, i2, i3, i6⟩
  have hpar := lm_spar s hs
  have hpz := lm_psz_b s hs
  have hlz : lm_lsz s = (lm_cw s + lm_sh s) * lm_sn s := Nat.mul_comm ..
  have hk2 : k * lm_lsz s + lm_lsz s ≤ lm_sd s * lm_lsz s := by rw [← Nat.succ_mul]; exact Nat.mul_le_mul_right _ hk
  have hps : lm_psz s = lm_sn s + lm_fsz s + lm_sd s * lm_lsz s := rfl
  have hT' := lm_tri_lt (s := s) hT k
  have hl' := lm_lfi_lt (s := s) (T0 := T0) hs hl k
  obtain ⟨m1, c1, f1, S1⟩ := lm_plr (sc := sc) (d := d + 7) (x := x) (k := k) (T := lm_tri s T0 k) i1 (by omega)
  have u2 := lm_u75 (sc := sc) (d := d + 7) (m := m1) (n := n) (x := x) (q := 354) (p := 360) (v := 64) (w := 32) (a := 0) (b := 0) (l := lm_sn s) rfl rfl (by decide) (by omega) (by omega) (by decide) (by decide)
  generalize eM2 : lm_fil m1 360 0 (0 + lm_sn s) (fun i => lm_b8 (m1 354 (0 + (i - 0)))) = M2 at u2
  have r2 : ∀ r, r ≠ 360 → M2 r = m1 r := fun r hr => by rw [← eM2, lm_fl_row hr]
  have F2 : lm_fG m1 n M2 n := lm_fG.of (r2 203 (by decide))
  have S2 : lm_RX (lm_WL C s P S k (lm_tri s T0 k)) M2 n := S1.keep F2 (r2 221 (by decide)) (r2 358 (by decide)) (r2 359 (by decide)) (r2 333 (by decide))
  obtain ⟨m3, n3, c3, S3, f3, g3, v3⟩ := lm_u120 (sc := sc) (d := d) (x := x) (W := lm_WL C s P S k (lm_tri s T0 k)) (V := lm_vvk C s P S T0 l0 V0 A k) (A := fun t => A (lm_sn s + lm_fsz s + k * lm_lsz s + t)) (I := lm_lfi s T0 l0 k) (q := 360) (v := 32) (a := 0) (p := 211) (w := 65536) (b := lm_sn s + lm_fsz s + k * lm_lsz s) hs S2 rfl (by decide) (show 0 + lm_sn s ≤ 32 by omega) (by decide) (fun t ht => by
    have ht' : t < lm_sn s := ht
    rw [← eM2, Nat.zero_add, lm_fl_in (by omega), lm_b8b8, Nat.sub_zero, Nat.zero_add, f1 354 (by decide), Nat.zero_add]
    exact i6 t ht') (by omega) rfl (by decide) (show lm_sn s + lm_fsz s + k * lm_lsz s + (lm_cw s + lm_sh s) * lm_sn s ≤ 65536 by omega) (by decide) (fun t ht => by
    have ht' : t < (lm_cw s + lm_sh s) * lm_sn s := ht
    rw [r2 211 (by decide), f1 211 (by decide), i2 211 (by decide) (by decide) (by decide)]
    exact hA _ (by omega))
  have S3y : lm_RY C s P S m3 n3 := S3.y
  refine ⟨m3, n3, ⟨S3y, fun r q1 q2 q3 => by rw [f3 r q1 q2 (by omega) (by omega) (by omega) (by omega) (by omega), r2 r (by omega), f1 r (by omega), i2 r q1 q2 q3], i3.tr (lm_fG.tr (lm_fG.of (f1 203 (by decide))) (F2.tr g3)), v3⟩, fun R KK => ?_⟩
  have S1f : lm_RF m1 s := S1.2.1
  have S3f : lm_RF m3 s := S3y.2.1
  clear v3 i6 hA
  refine lm_e38_239 ?_
  unfold lm_q38_239
  rw [lm_K0]
  repeat (first
    | ((with_reducible apply lm_sI); exact rfl)
    | ((with_reducible apply lm_sR); exact rfl)
    | ((with_reducible apply lm_sS); exact rfl; exact rfl)
    | ((with_reducible apply lm_sL); exact rfl)
    | ((with_reducible apply lm_sP); exact rfl; exact rfl)
    | ((with_reducible apply lm_sPL); exact rfl; exact rfl)
    | ((with_reducible apply lm_sAA); exact rfl; exact rfl)
    | ((with_reducible apply lm_sA); (first | exact rfl | assumption); omega)
    | ((with_reducible apply lm_sJ); (first | exact rfl | assumption); omega)
    | ((with_reducible apply lm_sB); (first | exact rfl | assumption); omega)
    | ((with_reducible apply lm_wA); (first | exact rfl | assumption); omega)
    | ((with_reducible apply lm_wJ); (first | exact rfl | assumption); omega)
    | ((with_reducible apply lm_wB); (first | exact rfl | assumption); omega)
    | ((with_reducible apply lm_sAl); (first | exact rfl | assumption); omega)
    | ((with_reducible apply lm_iW); decide))
  simp only [Nat.reduceDiv, Nat.reduceMod]
  rw [i1.2.1.2.2.1]
  refine lm_geF (by omega) (by omega) (by omega) ?_
  repeat (first
    | ((with_reducible apply lm_sI); exact rfl)
    | ((with_reducible apply lm_sR); exact rfl)
    | ((with_reducible apply lm_sS); exact rfl; exact rfl)
    | ((with_reducible apply lm_sL); exact rfl)
    | ((with_reducible apply lm_sP); exact rfl; exact rfl)
    | ((with_reducible apply lm_sPL); exact rfl; exact rfl)
    | ((with_reducible apply lm_sAA); exact rfl; exact rfl)
    | ((with_reducible apply lm_sA); (first | exact rfl | assumption); omega)
    | ((with_reducible apply lm_sJ); (first | exact rfl | assumption); omega)
    | ((with_reducible apply lm_sB); (first | exact rfl | assumption); omega)
    | ((with_reducible apply lm_wA); (first | exact rfl | assumption); omega)
    | ((with_reducible apply lm_wJ); (first | exact rfl | assumption); omega)
    | ((with_reducible apply lm_wB); (first | exact rfl | assumption); omega)
    | ((with_reducible apply lm_sAl); (first | exact rfl | assumption); omega)
    | ((with_reducible apply lm_iW); decide))
  refine lm_cV c1 ?_
  repeat (first
    | ((with_reducible apply lm_sI); exact rfl)
    | ((with_reducible apply lm_sR); exact rfl)
    | ((with_reducible apply lm_sS); exact rfl; exact rfl)
    | ((with_reducible apply lm_sL); exact rfl)
    | ((with_reducible apply lm_sP); exact rfl; exact rfl)
    | ((with_reducible apply lm_sPL); exact rfl; exact rfl)
    | ((with_reducible apply lm_sAA); exact rfl; exact rfl)
    | ((with_reducible apply lm_sA); (first | exact rfl | assumption); omega)
    | ((with_reducible apply lm_sJ); (first | exact rfl | assumption); omega)
    | ((with_reducible apply lm_sB); (first | exact rfl | assumption); omega)
    | ((with_reducible apply lm_wA); (first | exact rfl | assumption); omega)
    | ((with_reducible apply lm_wJ); (first | exact rfl | assumption); omega)
    | ((with_reducible apply lm_wB); (first | exact rfl | assumption); omega)
    | ((with_reducible apply lm_sAl); (first | exact rfl | assumption); omega)
    | ((with_reducible apply lm_iW); decide))
  simp only [Nat.reduceDiv, Nat.reduceMod]
  rw [S1f.1]
  refine lm_cV u2 ?_
  rw [lm_K5]
  repeat (first
    | ((with_reducible apply lm_sI); exact rfl)
    | ((with_reducible apply lm_sR); exact rfl)
    | ((with_reducible apply lm_sS); exact rfl; exact rfl)
    | ((with_reducible apply lm_sL); exact rfl)
    | ((with_reducible apply lm_sP); exact rfl; exact rfl)
    | ((with_reducible apply lm_sPL); exact rfl; exact rfl)
    | ((with_reducible apply lm_sAA); exact rfl; first | exact rfl | exact lm_roO (by omega) | exact lm_roM (by omega))
    | ((with_reducible apply lm_sI); exact lm_fpL (by omega))
    | ((with_reducible apply lm_sR); exact lm_fpB (by omega))
    | ((with_reducible apply lm_sP); exact lm_fpL (by omega); exact rfl)
    | ((with_reducible apply lm_sS); exact lm_ocO (by omega); exact rfl)
    | ((with_reducible apply lm_sA); exact rfl; omega)
    | ((with_reducible apply lm_sJ); exact rfl; omega)
    | ((with_reducible apply lm_sB); (first | exact rfl | exact lm_arB (by omega) | exact lm_arM (by omega)); omega)
    | ((with_reducible apply lm_wA); exact rfl; omega)
    | ((with_reducible apply lm_wJ); exact rfl; omega)
    | ((with_reducible apply lm_wB); (first | exact rfl | exact lm_arB (by omega) | exact lm_arM (by omega)); omega)
    | ((with_reducible apply lm_sAl); (first | exact rfl | exact lm_arB (by omega) | exact lm_arM (by omega)); omega)
    | ((with_reducible apply lm_iW); decide))
  refine lm_cV c3 ?_
  repeat (first
    | ((with_reducible apply lm_sI); exact rfl)
    | ((with_reducible apply lm_sR); exact rfl)
    | ((with_reducible apply lm_sS); exact rfl; exact rfl)
    | ((with_reducible apply lm_sL); exact rfl)
    | ((with_reducible apply lm_sP); exact rfl; exact rfl)
    | ((with_reducible apply lm_sPL); exact rfl; exact rfl)
    | ((with_reducible apply lm_sAA); exact rfl; exact rfl)
    | ((with_reducible apply lm_sA); (first | exact rfl | assumption); omega)
    | ((with_reducible apply lm_sJ); (first | exact rfl | assumption); omega)
    | ((with_reducible apply lm_sB); (first | exact rfl | assumption); omega)
    | ((with_reducible apply lm_wA); (first | exact rfl | assumption); omega)
    | ((with_reducible apply lm_wJ); (first | exact rfl | assumption); omega)
    | ((with_reducible apply lm_wB); (first | exact rfl | assumption); omega)
    | ((with_reducible apply lm_sAl); (first | exact rfl | assumption); omega)
    | ((with_reducible apply lm_iW); decide))
  simp only [Nat.reduceDiv, Nat.reduceMod]
  rw [S3f.2.2.2.2.2.2.1, S3f.2.2.2.1, S3f.1, lm_tmk hT' (by omega), lm_uLn hT' (by omega), lm_K1, lm_oo, lm_om, lm_oo, lm_oo, ← hlz, Nat.add_assoc, ← Nat.succ_mul]
  exact KK
/-- the checks -/
theorem lm_l38a (hs : s ≤ 11) (hk : kk ≤ 13) (hxl : m 214 4 = Int32.ofNat xl) (hx6 : xl ≤ 65536) (h1 : m 214 1 = Int32.ofNat sl) (hsl : sl ≤ 65536) : ∃ m1, lm_RF m1 s ∧ (∀ j, j ≠ 4 → j < 67 → m1 203 j = m 203 j) ∧ (∀ q, q ≠ 203 → q ≠ 333 → m1 q = m q) ∧ (¬ (kk = 0 ∨ xl ≤ 255) → lm_cal sc (d + 9) 38 [.ref 203, .int (Int32.ofNat s), .int (ln_kd kk)] (lm_w m n x) = some (.ok (some (.int (lm_z false))), lm_w (lm_u m1 203 4 (Int32.ofInt 2)) n x)) ∧ ((kk = 0 ∨ xl ≤ 255) → ∀ R, lm_rn sc (d + 8) lm_m38.2.2.2.2.1 (lm_reg lm_m38.2.2.2.2.2) (74, [(0, .ref 203), (2, .int (ln_kd kk))], [.int (lm_z (decide (sl = 2 * lm_sn s))), .ref 203]) (lm_w (lm_u m1 203 4 0) n x) = some R → lm_cal sc (d + 9) 38 [.ref 203, .int (Int32.ofNat s), .int (ln_kd kk)] (lm_w m n x) = some R) := by
  have hpar := lm_spar s hs
  obtain ⟨m1, c1, F1, z1, f1, r1⟩ := lm_u107x (sc := sc) (d := d + 7) (m := lm_u m 203 4 0) (n := n) (x := x) hs
  have u := ln_u96 (sc := sc) (d := d + 7) (m := m1) (n := n) (x := x) hk (by rw [r1 214 (by decide) (by decide), lm_u_row (by decide)]; exact hxl) hx6
  have pre : ∀ R, (lm_bind (lm_asI (lm_cal sc (d + 8) 96 [.ref 203, .int (ln_kd kk)])) fun v5 => lm_bind (lm_sel [(11, 49)] (some (.ref 203))) fun y6 => lm_bind (lm_asI (lm_cal sc (d + 8) y6 [.ref 203, .int v5, .int (Int32.ofInt 2)])) fun v7 => lm_if .eq v7 0 (lm_when ((Int32.ofInt 0) = 0 ∨ (Int32.ofInt 0) = 1) inferInstance (lm_ret (some (.int (Int32.ofInt 0))))) (lm_bind (lm_gR 4410 203) fun v8 => lm_bind (lm_iald sc v8 (Int32.ofInt 1)) fun v9 => lm_bind (lm_gI 4668 203) fun v10 => lm_if .ne v9 ((Int32.ofInt 2) * v10) (lm_rn sc (d + 8) lm_m38.2.2.2.2.1 (lm_reg lm_m38.2.2.2.2.2) (74, [(0, .ref 203), (2, .int (ln_kd kk))], [.int (Int32.ofInt 0), .ref 203])) (lm_rn sc (d + 8) lm_m38.2.2.2.2.1 (lm_reg lm_m38.2.2.2.2.2) (74, [(0, .ref 203), (2, .int (ln_kd kk))], [.int (Int32.ofInt 1), .ref 203])))) (lm_w m1 n x) = some R → lm_cal sc (d + 9) 38 [.ref 203, .int (Int32.ofNat s), .int (ln_kd kk)] (lm_w m n x) = some R := by
    intro R KK
    refine lm_cal_of (Y := lm_m38) rfl rfl (lm_e38_0 ?_)
    unfold lm_q38_0
    refine lm_cI (lm_t52n (i := s) (d := d + 7) (n := 11) hs (by omega)) ?_
    refine lm_iF (show ¬ (1 : Int32) = 0 by decide) ?_
    refine lm_cI (lm_t52t (d := d + 7) (ln_kd_r hk)) ?_
    refine lm_iF (show ¬ (1 : Int32) = 0 by decide) ?_
    refine lm_e38_26 ?_
    unfold lm_q38_26
    repeat (first
    | ((with_reducible apply lm_sI); exact rfl)
    | ((with_reducible apply lm_sR); exact rfl)
    | ((with_reducible apply lm_sS); exact rfl; exact rfl)
    | ((with_reducible apply lm_sL); exact rfl)
    | ((with_reducible apply lm_sP); exact rfl; exact rfl)
    | ((with_reducible apply lm_sPL); exact rfl; exact rfl)
    | ((with_reducible apply lm_sAA); exact rfl; first | exact rfl | exact lm_roO (by omega) | exact lm_roM (by omega))
    | ((with_reducible apply lm_sI); exact lm_fpL (by omega))
    | ((with_reducible apply lm_sR); exact lm_fpB (by omega))
    | ((with_reducible apply lm_sP); exact lm_fpL (by omega); exact rfl)
    | ((with_reducible apply lm_sS); exact lm_ocO (by omega); exact rfl)
    | ((with_reducible apply lm_sA); exact rfl; omega)
    | ((with_reducible apply lm_sJ); exact rfl; omega)
    | ((with_reducible apply lm_sB); (first | exact rfl | exact lm_arB (by omega) | exact lm_arM (by omega)); omega)
    | ((with_reducible apply lm_wA); exact rfl; omega)
    | ((with_reducible apply lm_wJ); exact rfl; omega)
    | ((with_reducible apply lm_wB); (first | exact rfl | exact lm_arB (by omega) | exact lm_arM (by omega)); omega)
    | ((with_reducible apply lm_sAl); (first | exact rfl | exact lm_arB (by omega) | exact lm_arM (by omega)); omega)
    | ((with_reducible apply lm_iW); decide))
    refine lm_cI (lm_u49 (d := d + 7) true) ?_
    refine lm_iT (show ¬ (1 : Int32) = 0 by decide) ?_
    repeat (first
    | ((with_reducible apply lm_sI); exact rfl)
    | ((with_reducible apply lm_sR); exact rfl)
    | ((with_reducible apply lm_sS); exact rfl; exact rfl)
    | ((with_reducible apply lm_sL); exact rfl)
    | ((with_reducible apply lm_sP); exact rfl; exact rfl)
    | ((with_reducible apply lm_sPL); exact rfl; exact rfl)
    | ((with_reducible apply lm_sAA); exact rfl; first | exact rfl | exact lm_roO (by omega) | exact lm_roM (by omega))
    | ((with_reducible apply lm_sI); exact lm_fpL (by omega))
    | ((with_reducible apply lm_sR); exact lm_fpB (by omega))
    | ((with_reducible apply lm_sP); exact lm_fpL (by omega); exact rfl)
    | ((with_reducible apply lm_sS); exact lm_ocO (by omega); exact rfl)
    | ((with_reducible apply lm_sA); exact rfl; omega)
    | ((with_reducible apply lm_sJ); exact rfl; omega)
    | ((with_reducible apply lm_sB); (first | exact rfl | exact lm_arB (by omega) | exact lm_arM (by omega)); omega)
    | ((with_reducible apply lm_wA); exact rfl; omega)
    | ((with_reducible apply lm_wJ); exact rfl; omega)
    | ((with_reducible apply lm_wB); (first | exact rfl | exact lm_arB (by omega) | exact lm_arM (by omega)); omega)
    | ((with_reducible apply lm_sAl); (first | exact rfl | exact lm_arB (by omega) | exact lm_arM (by omega)); omega)
    | ((with_reducible apply lm_iW); decide))
    refine lm_cV c1 ?_
    repeat (first
    | ((with_reducible apply lm_sI); exact rfl)
    | ((with_reducible apply lm_sR); exact rfl)
    | ((with_reducible apply lm_sS); exact rfl; exact rfl)
    | ((with_reducible apply lm_sL); exact rfl)
    | ((with_reducible apply lm_sP); exact rfl; exact rfl)
    | ((with_reducible apply lm_sPL); exact rfl; exact rfl)
    | ((with_reducible apply lm_sAA); exact rfl; first | exact rfl | exact lm_roO (by omega) | exact lm_roM (by omega))
    | ((with_reducible apply lm_sI); exact lm_fpL (by omega))
    | ((with_reducible apply lm_sR); exact lm_fpB (by omega))
    | ((with_reducible apply lm_sP); exact lm_fpL (by omega); exact rfl)
    | ((with_reducible apply lm_sS); exact lm_ocO (by omega); exact rfl)
    | ((with_reducible apply lm_sA); exact rfl; omega)
    | ((with_reducible apply lm_sJ); exact rfl; omega)
    | ((with_reducible apply lm_sB); (first | exact rfl | exact lm_arB (by omega) | exact lm_arM (by omega)); omega)
    | ((with_reducible apply lm_wA); exact rfl; omega)
    | ((with_reducible apply lm_wJ); exact rfl; omega)
    | ((with_reducible apply lm_wB); (first | exact rfl | exact lm_arB (by omega) | exact lm_arM (by omega)); omega)
    | ((with_reducible apply lm_sAl); (first | exact rfl | exact lm_arB (by omega) | exact lm_arM (by omega)); omega)
    | ((with_reducible apply lm_iW); decide))
    exact KK
  refine ⟨m1, F1, fun j h1 h2 => by rw [f1 j h2, lm_u_ne (fun g => h1 g.2)], fun q h1 h2 => by rw [r1 q h1 h2, lm_u_row h1], fun h => pre _ ?_, fun h R KK => pre R ?_⟩
  · rw [decide_eq_false h] at u
    refine lm_cI u ?_
    repeat (first
    | ((with_reducible apply lm_sI); exact rfl)
    | ((with_reducible apply lm_sR); exact rfl)
    | ((with_reducible apply lm_sS); exact rfl; exact rfl)
    | ((with_reducible apply lm_sL); exact rfl)
    | ((with_reducible apply lm_sP); exact rfl; exact rfl)
    | ((with_reducible apply lm_sPL); exact rfl; exact rfl)
    | ((with_reducible apply lm_sAA); exact rfl; first | exact rfl | exact lm_roO (by omega) | exact lm_roM (by omega))
    | ((with_reducible apply lm_sI); exact lm_fpL (by omega))
    | ((with_reducible apply lm_sR); exact lm_fpB (by omega))
    | ((with_reducible apply lm_sP); exact lm_fpL (by omega); exact rfl)
    | ((with_reducible apply lm_sS); exact lm_ocO (by omega); exact rfl)
    | ((with_reducible apply lm_sA); exact rfl; omega)
    | ((with_reducible apply lm_sJ); exact rfl; omega)
    | ((with_reducible apply lm_sB); (first | exact rfl | exact lm_arB (by omega) | exact lm_arM (by omega)); omega)
    | ((with_reducible apply lm_wA); exact rfl; omega)
    | ((with_reducible apply lm_wJ); exact rfl; omega)
    | ((with_reducible apply lm_wB); (first | exact rfl | exact lm_arB (by omega) | exact lm_arM (by omega)); omega)
    | ((with_reducible apply lm_sAl); (first | exact rfl | exact lm_arB (by omega) | exact lm_arM (by omega)); omega)
    | ((with_reducible apply lm_iW); decide))
    refine lm_cI (lm_u49 (d := d + 7) false) ?_
    refine lm_iT (show (0 : Int32) = 0 by decide) ?_
    exact lm_iW (by decide) rfl
  · rw [decide_eq_true h] at u
    refine lm_cI u ?_
    repeat (first
    | ((with_reducible apply lm_sI); exact rfl)
    | ((with_reducible apply lm_sR); exact rfl)
    | ((with_reducible apply lm_sS); exact rfl; exact rfl)
    | ((with_reducible apply lm_sL); exact rfl)
    | ((with_reducible apply lm_sP); exact rfl; exact rfl)
    | ((with_reducible apply lm_sPL); exact rfl; exact rfl)
    | ((with_reducible apply lm_sAA); exact rfl; first | exact rfl | exact lm_roO (by omega) | exact lm_roM (by omega))
    | ((with_reducible apply lm_sI); exact lm_fpL (by omega))
    | ((with_reducible apply lm_sR); exact lm_fpB (by omega))
    | ((with_reducible apply lm_sP); exact lm_fpL (by omega); exact rfl)
    | ((with_reducible apply lm_sS); exact lm_ocO (by omega); exact rfl)
    | ((with_reducible apply lm_sA); exact rfl; omega)
    | ((with_reducible apply lm_sJ); exact rfl; omega)
    | ((with_reducible apply lm_sB); (first | exact rfl | exact lm_arB (by omega) | exact lm_arM (by omega)); omega)
    | ((with_reducible apply lm_wA); exact rfl; omega)
    | ((with_reducible apply lm_wJ); exact rfl; omega)
    | ((with_reducible apply lm_wB); (first | exact rfl | exact lm_arB (by omega) | exact lm_arM (by omega)); omega)
    | ((with_reducible apply lm_sAl); (first | exact rfl | exact lm_arB (by omega) | exact lm_arM (by omega)); omega)
    | ((with_reducible apply lm_iW); decide))
    refine lm_cI (lm_u49 (d := d + 7) true) ?_
    refine lm_iF (show ¬ (1 : Int32) = 0 by decide) ?_
    rw [lm_K1, lm_K2]
    repeat (first
    | ((with_reducible apply lm_sI); exact rfl)
    | ((with_reducible apply lm_sR); exact rfl)
    | ((with_reducible apply lm_sS); exact rfl; exact rfl)
    | ((with_reducible apply lm_sL); exact rfl)
    | ((with_reducible apply lm_sP); exact rfl; exact rfl)
    | ((with_reducible apply lm_sPL); exact rfl; exact rfl)
    | ((with_reducible apply lm_sAA); exact rfl; first | exact rfl | exact lm_roO (by omega) | exact lm_roM (by omega))
    | ((with_reducible apply lm_sI); exact lm_fpL (by omega))
    | ((with_reducible apply lm_sR); exact lm_fpB (by omega))
    | ((with_reducible apply lm_sP); exact lm_fpL (by omega); exact rfl)
    | ((with_reducible apply lm_sS); exact lm_ocO (by omega); exact rfl)
    | ((with_reducible apply lm_sA); exact rfl; omega)
    | ((with_reducible apply lm_sJ); exact rfl; omega)
    | ((with_reducible apply lm_sB); (first | exact rfl | exact lm_arB (by omega) | exact lm_arM (by omega)); omega)
    | ((with_reducible apply lm_wA); exact rfl; omega)
    | ((with_reducible apply lm_wJ); exact rfl; omega)
    | ((with_reducible apply lm_wB); (first | exact rfl | exact lm_arB (by omega) | exact lm_arM (by omega)); omega)
    | ((with_reducible apply lm_sAl); (first | exact rfl | exact lm_arB (by omega) | exact lm_arM (by omega)); omega)
    | ((with_reducible apply lm_iW); decide))
    simp only [Nat.reduceDiv, Nat.reduceMod]
    rw [lm_u_row (by decide), r1 214 (by decide) (by decide), lm_u_row (by decide), h1, lm_u_ne (by decide), F1.1, lm_om]
    by_cases c : sl = 2 * lm_sn s
    · rw [decide_eq_true c] at KK
      exact lm_neF (by omega) (by omega) (fun g => g c) KK
    · rw [decide_eq_false c] at KK
      exact lm_neT (by omega) (by omega) c KK
theorem lm_u38g (hs : s ≤ 11) (hk : kk ≤ 13) (hxl : m 214 4 = Int32.ofNat xl) (hx6 : xl ≤ 65536) (h1 : m 214 1 = Int32.ofNat sl) (hsl : sl ≤ 65536) (hn : ¬ ((kk = 0 ∨ xl ≤ 255) ∧ sl = 2 * lm_sn s)) : ∃ m1, lm_cal sc (d + 9) 38 [.ref 203, .int (Int32.ofNat s), .int (ln_kd kk)] (lm_w m n x) = some (.ok (some (.int (lm_z false))), lm_w (lm_u m1 203 4 (if kk = 0 ∨ xl ≤ 255 then Int32.ofInt 3 else Int32.ofInt 2)) n x) ∧ (∀ q, q ≠ 203 → q ≠ 333 → m1 q = m q) ∧ m1 203 3 = m 203 3 := by
  obtain ⟨m1, F1, f1, r1, K1, K2⟩ := lm_l38a (sc := sc) (d := d) (m := m) (n := n) (x := x) hs hk hxl hx6 h1 hsl
  refine ⟨m1, ?_, r1, f1 3 (by decide) (by decide)⟩
  by_cases c : kk = 0 ∨ xl ≤ 255
  · rw [if_pos c]
    refine K2 c _ (lm_e38_74 ?_)
    rw [decide_eq_false (fun g => hn ⟨c, g⟩)]
    unfold lm_q38_74
    repeat (first
    | ((with_reducible apply lm_sI); exact rfl)
    | ((with_reducible apply lm_sR); exact rfl)
    | ((with_reducible apply lm_sS); exact rfl; exact rfl)
    | ((with_reducible apply lm_sL); exact rfl)
    | ((with_reducible apply lm_sP); exact rfl; exact rfl)
    | ((with_reducible apply lm_sPL); exact rfl; exact rfl)
    | ((with_reducible apply lm_sAA); exact rfl; first | exact rfl | exact lm_roO (by omega) | exact lm_roM (by omega))
    | ((with_reducible apply lm_sI); exact lm_fpL (by omega))
    | ((with_reducible apply lm_sR); exact lm_fpB (by omega))
    | ((with_reducible apply lm_sP); exact lm_fpL (by omega); exact rfl)
    | ((with_reducible apply lm_sS); exact lm_ocO (by omega); exact rfl)
    | ((with_reducible apply lm_sA); exact rfl; omega)
    | ((with_reducible apply lm_sJ); exact rfl; omega)
    | ((with_reducible apply lm_sB); (first | exact rfl | exact lm_arB (by omega) | exact lm_arM (by omega)); omega)
    | ((with_reducible apply lm_wA); exact rfl; omega)
    | ((with_reducible apply lm_wJ); exact rfl; omega)
    | ((with_reducible apply lm_wB); (first | exact rfl | exact lm_arB (by omega) | exact lm_arM (by omega)); omega)
    | ((with_reducible apply lm_sAl); (first | exact rfl | exact lm_arB (by omega) | exact lm_arM (by omega)); omega)
    | ((with_reducible apply lm_iW); decide))
    refine lm_cI (lm_u49 (d := d + 7) false) ?_
    refine lm_iF (show ¬ ¬ (0 : Int32) = 0 by decide) ?_
    refine lm_iW (by decide) ?_
    rw [lm_uu]
    exact rfl
  · rw [if_neg c]
    exact K1 c
theorem lm_u38f (hs : s ≤ 11) (hk : kk ≤ 13) (hxl : m 214 4 = Int32.ofNat xl) (hx6 : xl ≤ 65536) (hxk : kk = 0 ∨ xl ≤ 255) (h1 : m 214 1 = Int32.ofNat (2 * lm_sn s)) (hp : m 214 5 = Int32.ofNat pl) (hpl : pl ≤ 65536) (hn : pl ≠ lm_psz s) : ∃ m1, lm_cal sc (d + 9) 38 [.ref 203, .int (Int32.ofNat s), .int (ln_kd kk)] (lm_w m n x) = some (.ok (some (.int (lm_z false))), lm_w (lm_u m1 203 4 0) n x) ∧ (∀ q, q ≠ 203 → q ≠ 333 → m1 q = m q) ∧ m1 203 3 = m 203 3 := by
  have hpar := lm_spar s hs
  have hpz := lm_psz_b s hs
  obtain ⟨m1, F1, f1, r1, K1, K2⟩ := lm_l38a (sc := sc) (d := d) (m := m) (n := n) (x := x) hs hk hxl hx6 h1 (by omega)
  refine ⟨m1, K2 hxk _ (lm_e38_74 ?_), r1, f1 3 (by decide) (by decide)⟩
  rw [decide_eq_true rfl]
  unfold lm_q38_74
  repeat (first
    | ((with_reducible apply lm_sI); exact rfl)
    | ((with_reducible apply lm_sR); exact rfl)
    | ((with_reducible apply lm_sS); exact rfl; exact rfl)
    | ((with_reducible apply lm_sL); exact rfl)
    | ((with_reducible apply lm_sP); exact rfl; exact rfl)
    | ((with_reducible apply lm_sPL); exact rfl; exact rfl)
    | ((with_reducible apply lm_sAA); exact rfl; first | exact rfl | exact lm_roO (by omega) | exact lm_roM (by omega))
    | ((with_reducible apply lm_sI); exact lm_fpL (by omega))
    | ((with_reducible apply lm_sR); exact lm_fpB (by omega))
    | ((with_reducible apply lm_sP); exact lm_fpL (by omega); exact rfl)
    | ((with_reducible apply lm_sS); exact lm_ocO (by omega); exact rfl)
    | ((with_reducible apply lm_sA); exact rfl; omega)
    | ((with_reducible apply lm_sJ); exact rfl; omega)
    | ((with_reducible apply lm_sB); (first | exact rfl | exact lm_arB (by omega) | exact lm_arM (by omega)); omega)
    | ((with_reducible apply lm_wA); exact rfl; omega)
    | ((with_reducible apply lm_wJ); exact rfl; omega)
    | ((with_reducible apply lm_wB); (first | exact rfl | exact lm_arB (by omega) | exact lm_arM (by omega)); omega)
    | ((with_reducible apply lm_sAl); (first | exact rfl | exact lm_arB (by omega) | exact lm_arM (by omega)); omega)
    | ((with_reducible apply lm_iW); decide))
  refine lm_cI (lm_u49 (d := d + 7) true) ?_
  refine lm_iT (show ¬ (1 : Int32) = 0 by decide) ?_
  rw [lm_uu, show (cond true 0 (Int32.ofInt 3) : Int32) = 0 from rfl, lm_K5, lm_K1]
  repeat (first
    | ((with_reducible apply lm_sI); exact rfl)
    | ((with_reducible apply lm_sR); exact rfl)
    | ((with_reducible apply lm_sS); exact rfl; exact rfl)
    | ((with_reducible apply lm_sL); exact rfl)
    | ((with_reducible apply lm_sP); exact rfl; exact rfl)
    | ((with_reducible apply lm_sPL); exact rfl; exact rfl)
    | ((with_reducible apply lm_sAA); exact rfl; first | exact rfl | exact lm_roO (by omega) | exact lm_roM (by omega))
    | ((with_reducible apply lm_sI); exact lm_fpL (by omega))
    | ((with_reducible apply lm_sR); exact lm_fpB (by omega))
    | ((with_reducible apply lm_sP); exact lm_fpL (by omega); exact rfl)
    | ((with_reducible apply lm_sS); exact lm_ocO (by omega); exact rfl)
    | ((with_reducible apply lm_sA); exact rfl; omega)
    | ((with_reducible apply lm_sJ); exact rfl; omega)
    | ((with_reducible apply lm_sB); (first | exact rfl | exact lm_arB (by omega) | exact lm_arM (by omega)); omega)
    | ((with_reducible apply lm_wA); exact rfl; omega)
    | ((with_reducible apply lm_wJ); exact rfl; omega)
    | ((with_reducible apply lm_wB); (first | exact rfl | exact lm_arB (by omega) | exact lm_arM (by omega)); omega)
    | ((with_reducible apply lm_sAl); (first | exact rfl | exact lm_arB (by omega) | exact lm_arM (by omega)); omega)
    | ((with_reducible apply lm_iW); decide))
  simp only [Nat.reduceDiv, Nat.reduceMod]
  have e : ∀ j, j ≠ 4 → lm_u m1 203 4 0 203 j = m1 203 j := fun j hj => lm_u_ne (fun g => hj g.2)
  rw [lm_u_row (by decide), r1 214 (by decide) (by decide), hp, e 67 (by decide), e 72 (by decide), e 71 (by decide), e 68 (by decide), e 69 (by decide), e 73 (by decide), F1.1, F1.2.1, F1.2.2.1, F1.2.2.2.2.1, F1.2.2.2.2.2.1, F1.2.2.2.2.2.2.1, lm_psn hs]
  refine lm_eqF (by omega) (by omega) hn ?_
  exact lm_iW (by decide) rfl
set_option maxRecDepth 100000 in
theorem lm_u38h (hC : lm_cx m n = C) (hs : s ≤ 11) (hk : kk ≤ 13) (hxl : m 214 4 = Int32.ofNat xl) (hx6 : xl ≤ 65536) (hxk : kk = 0 ∨ xl ≤ 255) (h1 : m 214 1 = Int32.ofNat (2 * lm_sn s)) (hml : ml ≤ 65536) (hG : lm_Rsg C kk xl ml Sg m) (hp : m 214 5 = Int32.ofNat (lm_psz s)) (hA : ∀ t, t < lm_psz s → lm_b8 (m 211 t) = A t) (hQ : ∀ t, t < 2 * lm_sn s → lm_b8 (m 207 t) = QR t) : ∃ m' n', lm_cal sc (d + 9) 38 [.ref 203, .int (Int32.ofNat s), .int (ln_kd kk)] (lm_w m n x) = some (.ok (some (.int (lm_z (lm_ev (lm_vvR C s QR (fun _ => 0) (lm_plD C s A QR Sg (lm_sgl kk xl ml)) A) (fun t => QR (lm_sn s + t)) (lm_sn s) 0)))), lm_w m' n' x) ∧ (∀ q, q ≠ 203 → q ≠ 212 → q ≠ 214 → q ≠ 227 → q ≠ 228 → q ≠ 229 → (q < 327 ∨ 361 < q) → m' q = m q) ∧ (∀ j, j < 18 → j ≠ 4 → m' 203 j = m 203 j) ∧ (∀ q, q ≠ 203 → q ≠ 223 → q ≠ 224 → q ≠ 225 → q ≠ 226 → q ≠ 230 → n' q = n q) ∧ m' 203 4 = 0 ∧ (∀ j, j ≠ 6 → m' 214 j = m 214 j) ∧ m' 214 6 = Int32.ofNat (lm_sn s) ∧ ∀ t, t < lm_sn s → lm_b8 (m' 212 t) = lm_vvR C s QR (fun _ => 0) (lm_plD C s A QR Sg (lm_sgl kk xl ml)) A t := by
  have hpar := lm_spar s hs
  have hpz := lm_psz_b s hs
  have hps : lm_psz s = lm_sn s + lm_fsz s + lm_sd s * lm_lsz s := rfl
  obtain ⟨m1, F1, f1, r1, K1, K2⟩ := lm_l38a (sc := sc) (d := d) (m := m) (n := n) (x := x) hs hk hxl hx6 h1 (by omega)
  generalize eM2 : lm_u m1 203 4 0 = M2
  have r2 : ∀ r, r ≠ 203 → r ≠ 333 → M2 r = m r := fun r h1 h2 => by rw [← eM2, lm_u_row h1, r1 r h1 h2]
  have t2 : ∀ j, j ≠ 4 → M2 203 j = m1 203 j := fun j hj => by rw [← eM2, lm_u_ne (fun g => hj g.2)]
  have F2 : lm_RF M2 s := by
    unfold lm_RF
    rw [t2 67 (by decide), t2 68 (by decide), t2 69 (by decide), t2 70 (by decide), t2 71 (by decide), t2 72 (by decide), t2 73 (by decide), t2 74 (by decide)]
    exact F1
  have u3 := lm_u75 (sc := sc) (d := d + 7) (m := M2) (n := n) (x := x) (q := 207) (p := 358) (v := 65536) (w := 32) (a := 0) (b := 0) (l := lm_sn s) rfl rfl (by decide) (by omega) (by omega) (by decide) (by decide)
  generalize eM3 : lm_fil M2 358 0 (0 + lm_sn s) (fun i => lm_b8 (M2 207 (0 + (i - 0)))) = M3 at u3
  have r3 : ∀ r, r ≠ 358 → M3 r = M2 r := fun r hr => by rw [← eM3, lm_fl_row hr]
  have u4 := lm_u75 (sc := sc) (d := d + 7) (m := M3) (n := n) (x := x) (q := 207) (p := 361) (v := 65536) (w := 32) (a := lm_sn s) (b := 0) (l := lm_sn s) rfl rfl (by decide) (by omega) (by omega) (by decide) (by decide)
  generalize eM4 : lm_fil M3 361 0 (0 + lm_sn s) (fun i => lm_b8 (M3 207 (lm_sn s + (i - 0)))) = M4 at u4
  have r4 : ∀ r, r ≠ 361 → M4 r = M3 r := fun r hr => by rw [← eM4, lm_fl_row hr]
  have e207 : M2 207 = m 207 := r2 207 (by decide) (by decide)
  have k4 : ∀ r, r ≠ 203 → r ≠ 333 → r ≠ 358 → r ≠ 361 → M4 r = m r := fun r h1 h2 h3 h4 => by rw [r4 r h4, r3 r h3, r2 r h1 h2]
  have e203 : M4 203 = M2 203 := by rw [r4 203 (by decide), r3 203 (by decide)]
  have F4 : lm_RF M4 s := by unfold lm_RF; rw [e203]; exact F2
  have C4 : lm_cx M4 n = C := by
    rw [← hC]
    unfold lm_cx lm_tb
    rw [k4 221 (by decide) (by decide) (by decide) (by decide)]
  have P4 : ∀ t, t < lm_sn s → lm_b8 (M4 358 t) = QR t := fun t ht => by
    rw [r4 358 (by decide), ← eM3, lm_fl_in (by omega), lm_b8b8, e207, Nat.sub_zero, Nat.zero_add]
    exact hQ t (by omega)
  have T4 : ∀ t, t < lm_sn s → lm_b8 (M4 361 t) = QR (lm_sn s + t) := fun t ht => by
    rw [← eM4, lm_fl_in (by omega), lm_b8b8, r3 207 (by decide), e207, Nat.sub_zero]
    exact hQ _ (by omega)
  obtain ⟨m5, n5, c5, f5, g5, v5⟩ := lm_u114 (sc := sc) (d := d + 1) (x := x) (m := M4) (n := n) (kk := kk) (xl := xl) (ml := ml) (q := 211) (v := 65536) (Rb := A) (QR := QR) (Sg := Sg) C4 hs F4 hk hxk hml (hG.keep (fun r hr => k4 r (by omega) (by omega) (by omega) (by omega))) rfl (by decide) (by decide) (by omega) (by decide) (fun t ht => by rw [k4 211 (by decide) (by decide) (by decide) (by decide)]; exact hA t (by omega)) P4 T4
  generalize lm_plD C s A QR Sg (lm_sgl kk xl ml) = D at *
  have F5 := g5.RF F4
  have u115 := lm_u115 (sc := sc) (d := d + 7) (n := n5) (x := x) hs F5 v5
  have u116 := lm_u116 (sc := sc) (d := d + 7) (n := n5) (x := x) hs F5 v5
  have Y5 : lm_RY C s QR (fun t => lm_b8 (m5 359 t)) m5 n5 := ⟨(g5.cx (f5 221 (by decide) (by decide) (by decide) (by decide) (by decide) (by decide) (by decide) (by decide))).trans C4, F5, fun t ht => by
      rw [f5 358 (by decide) (by decide) (by decide) (by decide) (by decide) (by decide) (by decide) (by decide), P4 t ht, ← P4 t ht, lm_b8b8], fun _ _ => rfl⟩
  obtain ⟨m6, c6, f6, X6⟩ := lm_plr (sc := sc) (d := d + 7) (x := x) (k := 0) (T := lm_ctn s D) Y5 (by decide)
  generalize eS : (fun t => lm_b8 (m5 359 t)) = S at *
  have k6 : ∀ r, r ≠ 203 → r ≠ 227 → r ≠ 228 → r ≠ 229 → (r < 327 ∨ 361 < r) → m6 r = m r := fun r h1 h2 h3 h4 h5 => by rw [f6 r (by omega), f5 r h1 h2 h3 h4 (by omega) (by omega) (by omega) (by omega), k4 r h1 (by omega) (by omega) (by omega)]
  obtain ⟨m7, n7, c7, S7, f7, g7, v7⟩ := lm_u118 (sc := sc) (d := d) (x := x) (W := lm_WL C s QR S 0 (lm_ctn s D)) (u := Int32.ofNat (lm_clf s D)) (D := D) (A := fun t => A (lm_sn s + t)) (p := 211) (w := 65536) (b := lm_sn s) hs X6 (fun t ht => by rw [f6 356 (by decide)]; exact v5 t (Nat.lt_of_lt_of_le ht (Nat.le_trans (Nat.le_add_right _ _) (Nat.le_add_right _ _)))) rfl (by decide) (show lm_sn s + lm_fsz s ≤ 65536 by omega) (by decide) (fun t ht => by
    have ht' : t < lm_fsz s := ht
    rw [k6 211 (by decide) (by decide) (by decide) (by decide) (by decide)]
    exact hA _ (by omega))
  have Y7 : lm_RY C s QR S m7 n7 := S7.y
  have k7 : ∀ r, r ≠ 203 → r ≠ 227 → r ≠ 228 → r ≠ 229 → (r < 327 ∨ 361 < r) → m7 r = m r := fun r h1 h2 h3 h4 h5 => by rw [f7 r h1 h2 (by omega) (by omega) (by omega) (by omega), k6 r h1 h2 h3 h4 h5]
  obtain ⟨m8, n8, ⟨i1, i2, i3, i6⟩, k8⟩ := lm_lp (fr := fun k => (239, [(0, .ref 203), (3, .long (Int64.ofNat (lm_tri s (lm_ctn s D) k))), (5, .int (Int32.ofNat (lm_lfi s (lm_ctn s D) (lm_clf s D) k))), (6, .int (Int32.ofNat (lm_sn s + lm_fsz s + k * lm_lsz s))), (7, .int (Int32.ofNat k))], [])) (lm_l38 (sc := sc) (C := C) (P := QR) (S := S) (V0 := lm_hfr (lm_WL C s QR S 0 (lm_ctn s D)) (Int32.ofNat (lm_clf s D)) D (fun t => A (lm_sn s + t))) (A := A) (d := d) (x := x) (m0 := m7) (n0 := n7) hs (fun t ht => by rw [k7 211 (by decide) (by decide) (by decide) (by decide) (by decide)]; exact hA t ht) (lm_ctn_lt (D := D) hs) (lm_clf_lt (D := D) hs)) (lm_sd s) 0 (Nat.zero_add _) m7 n7 ⟨Y7, fun _ _ _ _ => rfl, lm_fG.rf, v7⟩
  have i6' : ∀ t, t < lm_sn s → lm_b8 (m8 354 t) = lm_vvR C s QR (fun _ => 0) D A t := fun t ht => by
    rw [i6 t ht, lm_vvR_S (S := fun _ => 0) (S' := S)]
    rfl
  generalize lm_vvR C s QR (fun _ => 0) D A = VV at *
  have u9 := lm_u75 (sc := sc) (d := d + 7) (m := m8) (n := n8) (x := x) (q := 354) (p := 212) (v := 64) (w := 65536) (a := 0) (b := 0) (l := lm_sn s) rfl rfl (by decide) (by omega) (by omega) (by decide) (by decide)
  generalize eM9 : lm_fil m8 212 0 (0 + lm_sn s) (fun i => lm_b8 (m8 354 (0 + (i - 0)))) = M9 at u9
  have r9 : ∀ r, r ≠ 212 → M9 r = m8 r := fun r hr => by rw [← eM9, lm_fl_row hr]
  generalize eMA : lm_u M9 214 6 (Int32.ofNat (lm_sn s)) = MA
  have rA : ∀ r, r ≠ 212 → r ≠ 214 → MA r = m8 r := fun r h1 h2 => by rw [← eMA, lm_u_row h2, r9 r h1]
  have e361 : MA 361 = M4 361 := by rw [rA 361 (by decide) (by decide), i2 361 (by decide) (by decide) (by decide), f7 361 (by decide) (by decide) (by decide) (by decide) (by decide) (by decide), f6 361 (by decide), f5 361 (by decide) (by decide) (by decide) (by decide) (by decide) (by decide) (by decide) (by decide)]
  have uB := lm_u80 (sc := sc) (d := d + 7) (m := MA) (n := n8) (x := x) (p := 354) (q := 361) (s := 64) (r := 32) (a := 0) (b := 0) (l := lm_sn s) rfl rfl (by omega) (by omega)
  rw [lm_ev_congr (f := fun t => lm_b8 (MA 354 (0 + t))) (g := fun t => lm_b8 (MA 361 (0 + t))) (f' := VV) (g' := fun t => QR (lm_sn s + t)) (lm_sn s) 0 (fun t _ ht => ⟨by rw [Nat.zero_add, rA 354 (by decide) (by decide)]; exact i6' t (by omega), by rw [Nat.zero_add, e361]; exact T4 t (by omega)⟩)] at uB
  have FG : lm_fG M4 n m8 n8 := g5.tr (lm_fG.tr (lm_fG.of (f6 203 (by decide))) (g7.tr i3))
  refine ⟨MA, n8, K2 hxk _ ?_, fun q q1 q2 q3 q4 q5 q6 q7 => by rw [rA q q2 q3, i2 q q1 q4 (by omega), k7 q q1 q4 q5 q6 q7], fun j j1 j2 => by rw [rA 203 (by decide) (by decide), FG.1 j (by omega) (by omega) (by omega), e203, t2 j j2, f1 j j2 (by omega)], FG.2, ?_, fun j hj => ?_, by rw [← eMA, lm_u_eq], fun t ht => ?_⟩
  · have S8f : lm_RF m8 s := i1.2.1
    have S7f : lm_RF m7 s := Y7.2.1
    have S6f : lm_RF m6 s := X6.2.1
    have e3 : M3 203 67 = Int32.ofNat (lm_sn s) := by rw [r3 203 (by decide)]; exact F2.1
    have e9 : M9 203 67 = Int32.ofNat (lm_sn s) := by rw [r9 203 (by decide)]; exact S8f.1
    have eA : MA 203 67 = Int32.ofNat (lm_sn s) := by rw [rA 203 (by decide) (by decide)]; exact S8f.1
    have ep : M2 214 5 = Int32.ofNat (lm_psz s) := by rw [r2 214 (by decide) (by decide)]; exact hp
    clear i6 i6' v7 v5 hA hQ P4 T4 K1 K2 eM9
    rw [Nat.zero_mul, Nat.add_zero] at k8
    refine lm_e38_74 ?_
    rw [decide_eq_true rfl]
    unfold lm_q38_74
    repeat (first
    | ((with_reducible apply lm_sI); exact rfl)
    | ((with_reducible apply lm_sR); exact rfl)
    | ((with_reducible apply lm_sS); exact rfl; exact rfl)
    | ((with_reducible apply lm_sL); exact rfl)
    | ((with_reducible apply lm_sP); exact rfl; exact rfl)
    | ((with_reducible apply lm_sPL); exact rfl; exact rfl)
    | ((with_reducible apply lm_sAA); exact rfl; first | exact rfl | exact lm_roO (by omega) | exact lm_roM (by omega))
    | ((with_reducible apply lm_sI); exact lm_fpL (by omega))
    | ((with_reducible apply lm_sR); exact lm_fpB (by omega))
    | ((with_reducible apply lm_sP); exact lm_fpL (by omega); exact rfl)
    | ((with_reducible apply lm_sS); exact lm_ocO (by omega); exact rfl)
    | ((with_reducible apply lm_sA); exact rfl; omega)
    | ((with_reducible apply lm_sJ); exact rfl; omega)
    | ((with_reducible apply lm_sB); (first | exact rfl | exact lm_arB (by omega) | exact lm_arM (by omega)); omega)
    | ((with_reducible apply lm_wA); exact rfl; omega)
    | ((with_reducible apply lm_wJ); exact rfl; omega)
    | ((with_reducible apply lm_wB); (first | exact rfl | exact lm_arB (by omega) | exact lm_arM (by omega)); omega)
    | ((with_reducible apply lm_sAl); (first | exact rfl | exact lm_arB (by omega) | exact lm_arM (by omega)); omega)
    | ((with_reducible apply lm_iW); decide))
    refine lm_cI (lm_u49 (d := d + 7) true) ?_
    refine lm_iT (show ¬ (1 : Int32) = 0 by decide) ?_
    rw [show (cond true 0 (Int32.ofInt 3) : Int32) = 0 from rfl, lm_uu, eM2, lm_K5, lm_K1]
    repeat (first
    | ((with_reducible apply lm_sI); exact rfl)
    | ((with_reducible apply lm_sR); exact rfl)
    | ((with_reducible apply lm_sS); exact rfl; exact rfl)
    | ((with_reducible apply lm_sL); exact rfl)
    | ((with_reducible apply lm_sP); exact rfl; exact rfl)
    | ((with_reducible apply lm_sPL); exact rfl; exact rfl)
    | ((with_reducible apply lm_sAA); exact rfl; first | exact rfl | exact lm_roO (by omega) | exact lm_roM (by omega))
    | ((with_reducible apply lm_sI); exact lm_fpL (by omega))
    | ((with_reducible apply lm_sR); exact lm_fpB (by omega))
    | ((with_reducible apply lm_sP); exact lm_fpL (by omega); exact rfl)
    | ((with_reducible apply lm_sS); exact lm_ocO (by omega); exact rfl)
    | ((with_reducible apply lm_sA); exact rfl; omega)
    | ((with_reducible apply lm_sJ); exact rfl; omega)
    | ((with_reducible apply lm_sB); (first | exact rfl | exact lm_arB (by omega) | exact lm_arM (by omega)); omega)
    | ((with_reducible apply lm_wA); exact rfl; omega)
    | ((with_reducible apply lm_wJ); exact rfl; omega)
    | ((with_reducible apply lm_wB); (first | exact rfl | exact lm_arB (by omega) | exact lm_arM (by omega)); omega)
    | ((with_reducible apply lm_sAl); (first | exact rfl | exact lm_arB (by omega) | exact lm_arM (by omega)); omega)
    | ((with_reducible apply lm_iW); decide))
    simp only [Nat.reduceDiv, Nat.reduceMod]
    rw [ep, F2.1, F2.2.1, F2.2.2.1, F2.2.2.2.2.1, F2.2.2.2.2.2.1, F2.2.2.2.2.2.2.1, lm_psn hs]
    refine lm_eqT (by omega) (by omega) rfl ?_
    rw [lm_K0]
    repeat (first
    | ((with_reducible apply lm_sI); exact rfl)
    | ((with_reducible apply lm_sR); exact rfl)
    | ((with_reducible apply lm_sS); exact rfl; exact rfl)
    | ((with_reducible apply lm_sL); exact rfl)
    | ((with_reducible apply lm_sP); exact rfl; exact rfl)
    | ((with_reducible apply lm_sPL); exact rfl; exact rfl)
    | ((with_reducible apply lm_sAA); exact rfl; first | exact rfl | exact lm_roO (by omega) | exact lm_roM (by omega))
    | ((with_reducible apply lm_sI); exact lm_fpL (by omega))
    | ((with_reducible apply lm_sR); exact lm_fpB (by omega))
    | ((with_reducible apply lm_sP); exact lm_fpL (by omega); exact rfl)
    | ((with_reducible apply lm_sS); exact lm_ocO (by omega); exact rfl)
    | ((with_reducible apply lm_sA); exact rfl; omega)
    | ((with_reducible apply lm_sJ); exact rfl; omega)
    | ((with_reducible apply lm_sB); (first | exact rfl | exact lm_arB (by omega) | exact lm_arM (by omega)); omega)
    | ((with_reducible apply lm_wA); exact rfl; omega)
    | ((with_reducible apply lm_wJ); exact rfl; omega)
    | ((with_reducible apply lm_wB); (first | exact rfl | exact lm_arB (by omega) | exact lm_arM (by omega)); omega)
    | ((with_reducible apply lm_sAl); (first | exact rfl | exact lm_arB (by omega) | exact lm_arM (by omega)); omega)
    | ((with_reducible apply lm_iW); decide))
    simp only [Nat.reduceDiv, Nat.reduceMod]
    rw [F2.1]
    refine lm_cV u3 ?_
    repeat (first
    | ((with_reducible apply lm_sI); exact rfl)
    | ((with_reducible apply lm_sR); exact rfl)
    | ((with_reducible apply lm_sS); exact rfl; exact rfl)
    | ((with_reducible apply lm_sL); exact rfl)
    | ((with_reducible apply lm_sP); exact rfl; exact rfl)
    | ((with_reducible apply lm_sPL); exact rfl; exact rfl)
    | ((with_reducible apply lm_sAA); exact rfl; first | exact rfl | exact lm_roO (by omega) | exact lm_roM (by omega))
    | ((with_reducible apply lm_sI); exact lm_fpL (by omega))
    | ((with_reducible apply lm_sR); exact lm_fpB (by omega))
    | ((with_reducible apply lm_sP); exact lm_fpL (by omega); exact rfl)
    | ((with_reducible apply lm_sS); exact lm_ocO (by omega); exact rfl)
    | ((with_reducible apply lm_sA); exact rfl; omega)
    | ((with_reducible apply lm_sJ); exact rfl; omega)
    | ((with_reducible apply lm_sB); (first | exact rfl | exact lm_arB (by omega) | exact lm_arM (by omega)); omega)
    | ((with_reducible apply lm_wA); exact rfl; omega)
    | ((with_reducible apply lm_wJ); exact rfl; omega)
    | ((with_reducible apply lm_wB); (first | exact rfl | exact lm_arB (by omega) | exact lm_arM (by omega)); omega)
    | ((with_reducible apply lm_sAl); (first | exact rfl | exact lm_arB (by omega) | exact lm_arM (by omega)); omega)
    | ((with_reducible apply lm_iW); decide))
    simp only [Nat.reduceDiv, Nat.reduceMod]
    rw [e3]
    refine lm_cV u4 ?_
    repeat (first
    | ((with_reducible apply lm_sI); exact rfl)
    | ((with_reducible apply lm_sR); exact rfl)
    | ((with_reducible apply lm_sS); exact rfl; exact rfl)
    | ((with_reducible apply lm_sL); exact rfl)
    | ((with_reducible apply lm_sP); exact rfl; exact rfl)
    | ((with_reducible apply lm_sPL); exact rfl; exact rfl)
    | ((with_reducible apply lm_sAA); exact rfl; first | exact rfl | exact lm_roO (by omega) | exact lm_roM (by omega))
    | ((with_reducible apply lm_sI); exact lm_fpL (by omega))
    | ((with_reducible apply lm_sR); exact lm_fpB (by omega))
    | ((with_reducible apply lm_sP); exact lm_fpL (by omega); exact rfl)
    | ((with_reducible apply lm_sS); exact lm_ocO (by omega); exact rfl)
    | ((with_reducible apply lm_sA); exact rfl; omega)
    | ((with_reducible apply lm_sJ); exact rfl; omega)
    | ((with_reducible apply lm_sB); (first | exact rfl | exact lm_arB (by omega) | exact lm_arM (by omega)); omega)
    | ((with_reducible apply lm_wA); exact rfl; omega)
    | ((with_reducible apply lm_wJ); exact rfl; omega)
    | ((with_reducible apply lm_wB); (first | exact rfl | exact lm_arB (by omega) | exact lm_arM (by omega)); omega)
    | ((with_reducible apply lm_sAl); (first | exact rfl | exact lm_arB (by omega) | exact lm_arM (by omega)); omega)
    | ((with_reducible apply lm_iW); decide))
    refine lm_cV c5 ?_
    repeat (first
    | ((with_reducible apply lm_sI); exact rfl)
    | ((with_reducible apply lm_sR); exact rfl)
    | ((with_reducible apply lm_sS); exact rfl; exact rfl)
    | ((with_reducible apply lm_sL); exact rfl)
    | ((with_reducible apply lm_sP); exact rfl; exact rfl)
    | ((with_reducible apply lm_sPL); exact rfl; exact rfl)
    | ((with_reducible apply lm_sAA); exact rfl; first | exact rfl | exact lm_roO (by omega) | exact lm_roM (by omega))
    | ((with_reducible apply lm_sI); exact lm_fpL (by omega))
    | ((with_reducible apply lm_sR); exact lm_fpB (by omega))
    | ((with_reducible apply lm_sP); exact lm_fpL (by omega); exact rfl)
    | ((with_reducible apply lm_sS); exact lm_ocO (by omega); exact rfl)
    | ((with_reducible apply lm_sA); exact rfl; omega)
    | ((with_reducible apply lm_sJ); exact rfl; omega)
    | ((with_reducible apply lm_sB); (first | exact rfl | exact lm_arB (by omega) | exact lm_arM (by omega)); omega)
    | ((with_reducible apply lm_wA); exact rfl; omega)
    | ((with_reducible apply lm_wJ); exact rfl; omega)
    | ((with_reducible apply lm_wB); (first | exact rfl | exact lm_arB (by omega) | exact lm_arM (by omega)); omega)
    | ((with_reducible apply lm_sAl); (first | exact rfl | exact lm_arB (by omega) | exact lm_arM (by omega)); omega)
    | ((with_reducible apply lm_iW); decide))
    refine lm_cLg u115 ?_
    repeat (first
    | ((with_reducible apply lm_sI); exact rfl)
    | ((with_reducible apply lm_sR); exact rfl)
    | ((with_reducible apply lm_sS); exact rfl; exact rfl)
    | ((with_reducible apply lm_sL); exact rfl)
    | ((with_reducible apply lm_sP); exact rfl; exact rfl)
    | ((with_reducible apply lm_sPL); exact rfl; exact rfl)
    | ((with_reducible apply lm_sAA); exact rfl; first | exact rfl | exact lm_roO (by omega) | exact lm_roM (by omega))
    | ((with_reducible apply lm_sI); exact lm_fpL (by omega))
    | ((with_reducible apply lm_sR); exact lm_fpB (by omega))
    | ((with_reducible apply lm_sP); exact lm_fpL (by omega); exact rfl)
    | ((with_reducible apply lm_sS); exact lm_ocO (by omega); exact rfl)
    | ((with_reducible apply lm_sA); exact rfl; omega)
    | ((with_reducible apply lm_sJ); exact rfl; omega)
    | ((with_reducible apply lm_sB); (first | exact rfl | exact lm_arB (by omega) | exact lm_arM (by omega)); omega)
    | ((with_reducible apply lm_wA); exact rfl; omega)
    | ((with_reducible apply lm_wJ); exact rfl; omega)
    | ((with_reducible apply lm_wB); (first | exact rfl | exact lm_arB (by omega) | exact lm_arM (by omega)); omega)
    | ((with_reducible apply lm_sAl); (first | exact rfl | exact lm_arB (by omega) | exact lm_arM (by omega)); omega)
    | ((with_reducible apply lm_iW); decide))
    refine lm_cI u116 ?_
    repeat (first
    | ((with_reducible apply lm_sI); exact rfl)
    | ((with_reducible apply lm_sR); exact rfl)
    | ((with_reducible apply lm_sS); exact rfl; exact rfl)
    | ((with_reducible apply lm_sL); exact rfl)
    | ((with_reducible apply lm_sP); exact rfl; exact rfl)
    | ((with_reducible apply lm_sPL); exact rfl; exact rfl)
    | ((with_reducible apply lm_sAA); exact rfl; first | exact rfl | exact lm_roO (by omega) | exact lm_roM (by omega))
    | ((with_reducible apply lm_sI); exact lm_fpL (by omega))
    | ((with_reducible apply lm_sR); exact lm_fpB (by omega))
    | ((with_reducible apply lm_sP); exact lm_fpL (by omega); exact rfl)
    | ((with_reducible apply lm_sS); exact lm_ocO (by omega); exact rfl)
    | ((with_reducible apply lm_sA); exact rfl; omega)
    | ((with_reducible apply lm_sJ); exact rfl; omega)
    | ((with_reducible apply lm_sB); (first | exact rfl | exact lm_arB (by omega) | exact lm_arM (by omega)); omega)
    | ((with_reducible apply lm_wA); exact rfl; omega)
    | ((with_reducible apply lm_wJ); exact rfl; omega)
    | ((with_reducible apply lm_wB); (first | exact rfl | exact lm_arB (by omega) | exact lm_arM (by omega)); omega)
    | ((with_reducible apply lm_sAl); (first | exact rfl | exact lm_arB (by omega) | exact lm_arM (by omega)); omega)
    | ((with_reducible apply lm_iW); decide))
    refine lm_cV c6 ?_
    repeat (first
    | ((with_reducible apply lm_sI); exact rfl)
    | ((with_reducible apply lm_sR); exact rfl)
    | ((with_reducible apply lm_sS); exact rfl; exact rfl)
    | ((with_reducible apply lm_sL); exact rfl)
    | ((with_reducible apply lm_sP); exact rfl; exact rfl)
    | ((with_reducible apply lm_sPL); exact rfl; exact rfl)
    | ((with_reducible apply lm_sAA); exact rfl; first | exact rfl | exact lm_roO (by omega) | exact lm_roM (by omega))
    | ((with_reducible apply lm_sI); exact lm_fpL (by omega))
    | ((with_reducible apply lm_sR); exact lm_fpB (by omega))
    | ((with_reducible apply lm_sP); exact lm_fpL (by omega); exact rfl)
    | ((with_reducible apply lm_sS); exact lm_ocO (by omega); exact rfl)
    | ((with_reducible apply lm_sA); exact rfl; omega)
    | ((with_reducible apply lm_sJ); exact rfl; omega)
    | ((with_reducible apply lm_sB); (first | exact rfl | exact lm_arB (by omega) | exact lm_arM (by omega)); omega)
    | ((with_reducible apply lm_wA); exact rfl; omega)
    | ((with_reducible apply lm_wJ); exact rfl; omega)
    | ((with_reducible apply lm_wB); (first | exact rfl | exact lm_arB (by omega) | exact lm_arM (by omega)); omega)
    | ((with_reducible apply lm_sAl); (first | exact rfl | exact lm_arB (by omega) | exact lm_arM (by omega)); omega)
    | ((with_reducible apply lm_iW); decide))
    simp only [Nat.reduceDiv, Nat.reduceMod]
    rw [S6f.1]
    refine lm_cV c7 ?_
    repeat (first
    | ((with_reducible apply lm_sI); exact rfl)
    | ((with_reducible apply lm_sR); exact rfl)
    | ((with_reducible apply lm_sS); exact rfl; exact rfl)
    | ((with_reducible apply lm_sL); exact rfl)
    | ((with_reducible apply lm_sP); exact rfl; exact rfl)
    | ((with_reducible apply lm_sPL); exact rfl; exact rfl)
    | ((with_reducible apply lm_sAA); exact rfl; first | exact rfl | exact lm_roO (by omega) | exact lm_roM (by omega))
    | ((with_reducible apply lm_sI); exact lm_fpL (by omega))
    | ((with_reducible apply lm_sR); exact lm_fpB (by omega))
    | ((with_reducible apply lm_sP); exact lm_fpL (by omega); exact rfl)
    | ((with_reducible apply lm_sS); exact lm_ocO (by omega); exact rfl)
    | ((with_reducible apply lm_sA); exact rfl; omega)
    | ((with_reducible apply lm_sJ); exact rfl; omega)
    | ((with_reducible apply lm_sB); (first | exact rfl | exact lm_arB (by omega) | exact lm_arM (by omega)); omega)
    | ((with_reducible apply lm_wA); exact rfl; omega)
    | ((with_reducible apply lm_wJ); exact rfl; omega)
    | ((with_reducible apply lm_wB); (first | exact rfl | exact lm_arB (by omega) | exact lm_arM (by omega)); omega)
    | ((with_reducible apply lm_sAl); (first | exact rfl | exact lm_arB (by omega) | exact lm_arM (by omega)); omega)
    | ((with_reducible apply lm_iW); decide))
    simp only [Nat.reduceDiv, Nat.reduceMod]
    rw [S7f.1, S7f.2.2.2.2.1, S7f.2.2.2.2.2.1, lm_fsn]
    refine k8 _ ?_
    refine lm_e38_239 ?_
    unfold lm_q38_239
    rw [lm_K0]
    repeat (first
    | ((with_reducible apply lm_sI); exact rfl)
    | ((with_reducible apply lm_sR); exact rfl)
    | ((with_reducible apply lm_sS); exact rfl; exact rfl)
    | ((with_reducible apply lm_sL); exact rfl)
    | ((with_reducible apply lm_sP); exact rfl; exact rfl)
    | ((with_reducible apply lm_sPL); exact rfl; exact rfl)
    | ((with_reducible apply lm_sAA); exact rfl; first | exact rfl | exact lm_roO (by omega) | exact lm_roM (by omega))
    | ((with_reducible apply lm_sI); exact lm_fpL (by omega))
    | ((with_reducible apply lm_sR); exact lm_fpB (by omega))
    | ((with_reducible apply lm_sP); exact lm_fpL (by omega); exact rfl)
    | ((with_reducible apply lm_sS); exact lm_ocO (by omega); exact rfl)
    | ((with_reducible apply lm_sA); exact rfl; omega)
    | ((with_reducible apply lm_sJ); exact rfl; omega)
    | ((with_reducible apply lm_sB); (first | exact rfl | exact lm_arB (by omega) | exact lm_arM (by omega)); omega)
    | ((with_reducible apply lm_wA); exact rfl; omega)
    | ((with_reducible apply lm_wJ); exact rfl; omega)
    | ((with_reducible apply lm_wB); (first | exact rfl | exact lm_arB (by omega) | exact lm_arM (by omega)); omega)
    | ((with_reducible apply lm_sAl); (first | exact rfl | exact lm_arB (by omega) | exact lm_arM (by omega)); omega)
    | ((with_reducible apply lm_iW); decide))
    simp only [Nat.reduceDiv, Nat.reduceMod]
    rw [S8f.2.2.1]
    refine lm_geT (by omega) (by omega) (Nat.le_refl _) ?_
    rw [lm_K6]
    repeat (first
    | ((with_reducible apply lm_sI); exact rfl)
    | ((with_reducible apply lm_sR); exact rfl)
    | ((with_reducible apply lm_sS); exact rfl; exact rfl)
    | ((with_reducible apply lm_sL); exact rfl)
    | ((with_reducible apply lm_sP); exact rfl; exact rfl)
    | ((with_reducible apply lm_sPL); exact rfl; exact rfl)
    | ((with_reducible apply lm_sAA); exact rfl; first | exact rfl | exact lm_roO (by omega) | exact lm_roM (by omega))
    | ((with_reducible apply lm_sI); exact lm_fpL (by omega))
    | ((with_reducible apply lm_sR); exact lm_fpB (by omega))
    | ((with_reducible apply lm_sP); exact lm_fpL (by omega); exact rfl)
    | ((with_reducible apply lm_sS); exact lm_ocO (by omega); exact rfl)
    | ((with_reducible apply lm_sA); exact rfl; omega)
    | ((with_reducible apply lm_sJ); exact rfl; omega)
    | ((with_reducible apply lm_sB); (first | exact rfl | exact lm_arB (by omega) | exact lm_arM (by omega)); omega)
    | ((with_reducible apply lm_wA); exact rfl; omega)
    | ((with_reducible apply lm_wJ); exact rfl; omega)
    | ((with_reducible apply lm_wB); (first | exact rfl | exact lm_arB (by omega) | exact lm_arM (by omega)); omega)
    | ((with_reducible apply lm_sAl); (first | exact rfl | exact lm_arB (by omega) | exact lm_arM (by omega)); omega)
    | ((with_reducible apply lm_iW); decide))
    simp only [Nat.reduceDiv, Nat.reduceMod]
    rw [S8f.1]
    refine lm_cV u9 ?_
    repeat (first
    | ((with_reducible apply lm_sI); exact rfl)
    | ((with_reducible apply lm_sR); exact rfl)
    | ((with_reducible apply lm_sS); exact rfl; exact rfl)
    | ((with_reducible apply lm_sL); exact rfl)
    | ((with_reducible apply lm_sP); exact rfl; exact rfl)
    | ((with_reducible apply lm_sPL); exact rfl; exact rfl)
    | ((with_reducible apply lm_sAA); exact rfl; first | exact rfl | exact lm_roO (by omega) | exact lm_roM (by omega))
    | ((with_reducible apply lm_sI); exact lm_fpL (by omega))
    | ((with_reducible apply lm_sR); exact lm_fpB (by omega))
    | ((with_reducible apply lm_sP); exact lm_fpL (by omega); exact rfl)
    | ((with_reducible apply lm_sS); exact lm_ocO (by omega); exact rfl)
    | ((with_reducible apply lm_sA); exact rfl; omega)
    | ((with_reducible apply lm_sJ); exact rfl; omega)
    | ((with_reducible apply lm_sB); (first | exact rfl | exact lm_arB (by omega) | exact lm_arM (by omega)); omega)
    | ((with_reducible apply lm_wA); exact rfl; omega)
    | ((with_reducible apply lm_wJ); exact rfl; omega)
    | ((with_reducible apply lm_wB); (first | exact rfl | exact lm_arB (by omega) | exact lm_arM (by omega)); omega)
    | ((with_reducible apply lm_sAl); (first | exact rfl | exact lm_arB (by omega) | exact lm_arM (by omega)); omega)
    | ((with_reducible apply lm_iW); decide))
    simp only [Nat.reduceDiv, Nat.reduceMod]
    rw [e9, eMA, eA]
    refine lm_cI uB ?_
    exact lm_iW (lm_z01 _) rfl
  · rw [rA 203 (by decide) (by decide), FG.1 4 (by decide) (by decide) (by decide), e203, ← eM2, lm_u_eq]
  · rw [← eMA, lm_u_ne (fun g => hj g.2), r9 214 (by decide), i2 214 (by decide) (by decide) (by decide), k7 214 (by decide) (by decide) (by decide) (by decide) (by decide)]
  · rw [← eMA, lm_u_row (by decide), ← eM9, lm_fl_in (by omega), lm_b8b8, Nat.sub_zero, Nat.zero_add]
    exact i6' t ht
end LMUI
