/-! ===== kemWrap of the reference, whole ===== -/
section LMRO
variable {sc : lm_H} {C : lm_CX} {d s l : Nat} {m : lm_MI} {n : lm_ML} {x : lm_H × Nat × Nat}
/-- behind the check -/
theorem lm_l24b (hs : s ≤ 2) (h : lm_RK0 C (s + 2) (lm_ke s) m n) (h34 : m 203 34 = Int32.ofNat (lm_ku s)) (h35 : m 203 35 = Int32.ofNat (lm_kv s)) (h1l : m 214 1 = Int32.ofNat (384 * (s + 2) + 32)) : (∃ m' n', lm_rn sc (d + 7) lm_m24.2.2.2.2.1 (lm_reg lm_m24.2.2.2.2.2) (121, [(0, .ref 203), (2, .int (lm_z true))], []) (lm_w m n x) = some (.ok (some (.int (Int32.ofNat (lm_kps s)))), lm_w m' n' x) ∧ lm_kAll C (m 207) (0 + 384 * (s + 2)) (s + 2) ∧ (∀ r, r ≠ 203 → r ≠ 211 → r ≠ 212 → r ≠ 214 → r ≠ 227 → (r < 231 ∨ 266 < r) → m' r = m r) ∧ (∀ j, j ≠ 4 → j ≠ 18 → j ≠ 19 → j ≠ 20 → j ≠ 24 → m' 203 j = m 203 j) ∧ (∀ q, q ≠ 203 → q ≠ 223 → q ≠ 224 → q ≠ 225 → q ≠ 226 → q ≠ 230 → n' q = n q) ∧ m' 203 4 = 0 ∧ (∀ j, j ≠ 5 → j ≠ 6 → m' 214 j = m 214 j) ∧ m' 214 5 = Int32.ofNat (lm_kps s) ∧ m' 214 6 = Int32.ofNat 32 ∧ (∀ j, j < lm_kps s → lm_yb (m' 211 j) = lm_wct C (m 207) (m 206) (lm_kQ C (m 206) (lm_kH C (m 207) 0 (s + 2))) 0 s j) ∧ ∀ j, j < 32 → lm_b8 (m' 212 j) = lm_b8 (lm_kQ C (m 206) (lm_kH C (m 207) 0 (s + 2)) j)) ∨ ∃ m' n', lm_rn sc (d + 7) lm_m24.2.2.2.2.1 (lm_reg lm_m24.2.2.2.2.2) (121, [(0, .ref 203), (2, .int (lm_z true))], []) (lm_w m n x) = some (.ok (some (.int 0)), lm_w m' n' x) ∧ ¬ lm_kAll C (m 207) (0 + 384 * (s + 2)) (s + 2) ∧ (∀ r, r ≠ 203 → r ≠ 227 → (r < 231 ∨ 266 < r) → m' r = m r) ∧ (∀ j, j ≠ 4 → j ≠ 18 → j ≠ 19 → j ≠ 20 → j ≠ 24 → m' 203 j = m 203 j) ∧ (∀ q, q ≠ 203 → q ≠ 223 → q ≠ 224 → q ≠ 225 → q ≠ 226 → q ≠ 230 → n' q = n q) ∧ m' 203 4 = Int32.ofInt 4 := by
  obtain ⟨⟨z1, z2⟩, ⟨z3, z4⟩, z5, z6⟩ := lm_kusz hs
  have u49 := lm_u49 (sc := sc) (d := d + 6) (m := m) (n := n) (x := x) (k := Int32.ofInt 3) true
  generalize eM0 : lm_u m 203 4 (cond true 0 (Int32.ofInt 3)) = M0 at u49
  have r0 : ∀ r, r ≠ 203 → M0 r = m r := fun r hr => by rw [← eM0, lm_u_row hr]
  have f0 : ∀ j, j ≠ 4 → M0 203 j = m 203 j := fun j hj => by rw [← eM0, lm_u_ne (fun g => hj g.2)]
  have C0 : lm_cx M0 n = C := by
    rw [← h.1]
    unfold lm_cx lm_tb
    rw [r0 221 (by decide)]
  have e4 : M0 203 4 = 0 := by rw [← eM0, lm_u_eq]; rfl
  obtain ⟨m1, n1, c1, s1, f1⟩ := lm_rS (sc := sc) (d := d + 5) (x := x) (k := 8) (G := fun t => lm_b8 (m 207 (0 + t))) C0 (by decide) (by decide)
  have C1 := f1.cx.trans C0
  obtain ⟨m2, n2, c2, s2, f2⟩ := lm_rA (sc := sc) (d := d + 3) (x := x) (k := 8) (q := 207) (v := 65536) (a := 0) (l := 384 * (s + 2) + 32) (L := 0) (G := fun t => lm_b8 (m 207 (0 + t))) C1 (by decide) (by decide) rfl (by omega) (by decide) (fun t ht => by
    rw [f1.1 207 (by decide) (by decide), r0 207 (by decide)]
    simp only [Nat.zero_add]) s1
  have C2 := f2.cx.trans C1
  rw [Nat.zero_add] at s2
  obtain ⟨m3, n3, c3, f3⟩ := lm_rG (sc := sc) (d := d + 2) (x := x) (k := 8) (q := 263) (v := 256) (a := 128) (l := 32) C2 (by decide) (by decide) rfl (by decide) (by decide) (fun h => absurd h (by decide)) s2
  generalize eM3 : lm_fil m3 263 128 (128 + 32) (fun i => lm_Hm C 8 (fun t => lm_b8 (m 207 (0 + t))) (384 * (s + 2) + 32) (i - 128)) = M3 at c3
  have r3 : ∀ r, r ≠ 263 → M3 r = m3 r := fun r hr => by rw [← eM3, lm_fl_row hr]
  have v3 : ∀ i, i < 32 → M3 263 (128 + i) = lm_kH C (m 207) 0 (s + 2) i := fun i hi => by
    rw [← eM3, lm_fl_in (by omega), Nat.add_sub_cancel_left]
    rfl
  have fh3 : lm_fh M0 n m3 n3 := f1.tr (f2.tr f3)
  have C3 : lm_cx M3 n3 = C := by
    rw [← C2, ← f3.cx]
    unfold lm_cx lm_tb
    rw [r3 221 (by decide)]
  obtain ⟨m4, n4, c4, s4, f4⟩ := lm_rS (sc := sc) (d := d + 5) (x := x) (k := 10) (G := lm_gw (m 206) (lm_kH C (m 207) 0 (s + 2))) C3 (by decide) (by decide)
  have C4 := f4.cx.trans C3
  have e206 : m4 206 = m 206 := by rw [f4.1 206 (by decide) (by decide), r3 206 (by decide), fh3.1 206 (by decide) (by decide), r0 206 (by decide)]
  obtain ⟨m5, n5, c5, s5, f5⟩ := lm_rA (sc := sc) (d := d + 3) (x := x) (k := 10) (q := 206) (v := 65536) (a := 0) (l := 32) (L := 0) (G := lm_gw (m 206) (lm_kH C (m 207) 0 (s + 2))) C4 (by decide) (by decide) rfl (by decide) (by decide) (fun t ht => by
    rw [e206, Nat.zero_add, lm_gw, if_pos ht]) s4
  have C5 := f5.cx.trans C4
  rw [Nat.zero_add] at s5
  obtain ⟨m6, n6, c6, s6, f6⟩ := lm_rA (sc := sc) (d := d + 3) (x := x) (k := 10) (q := 263) (v := 256) (a := 128) (l := 32) (L := 32) (G := lm_gw (m 206) (lm_kH C (m 207) 0 (s + 2))) C5 (by decide) (by decide) rfl (by decide) (by decide) (fun t ht => by
    rw [f5.1 263 (by decide) (by decide), f4.1 263 (by decide) (by decide), v3 t ht, lm_gw, if_neg (by omega), Nat.add_sub_cancel_left]) s5
  have C6 := f6.cx.trans C5
  obtain ⟨m7, n7, c7, f7⟩ := lm_rG (sc := sc) (d := d + 2) (x := x) (k := 10) (q := 263) (v := 256) (a := 64) (l := 64) C6 (by decide) (by decide) rfl (by decide) (by decide) (fun h => absurd h (by decide)) s6
  generalize eM7 : lm_fil m7 263 64 (64 + 64) (fun i => lm_Hm C 10 (lm_gw (m 206) (lm_kH C (m 207) 0 (s + 2))) (32 + 32) (i - 64)) = M7 at c7
  have r7 : ∀ r, r ≠ 263 → M7 r = m7 r := fun r hr => by rw [← eM7, lm_fl_row hr]
  have v7 : ∀ i, i < 64 → M7 263 (64 + i) = lm_kQ C (m 206) (lm_kH C (m 207) 0 (s + 2)) i := fun i hi => by
    rw [← eM7, lm_fl_in (by omega), Nat.add_sub_cancel_left]
    rfl
  generalize lm_kQ C (m 206) (lm_kH C (m 207) 0 (s + 2)) = P at *
  have fh7 : lm_fh M3 n3 m7 n7 := f4.tr (f5.tr (f6.tr f7))
  have rA : ∀ r, r ≠ 203 → r ≠ 227 → r ≠ 263 → M7 r = m r := fun r q1 q2 q3 => by rw [r7 r q3, fh7.1 r q1 q2, r3 r q3, fh3.1 r q1 q2, r0 r q1]
  have fF : ∀ j, j ≠ 18 → j ≠ 19 → j ≠ 20 → M7 203 j = M0 203 j := fun j j1 j2 j3 => by rw [r7 203 (by decide), fh7.2.1 j j1 j2 j3, r3 203 (by decide), fh3.2.1 j j1 j2 j3]
  have nF : ∀ q, q ≠ 203 → q ≠ 223 → q ≠ 224 → q ≠ 225 → q ≠ 226 → q ≠ 230 → n7 q = n q := fun q q1 q2 q3 q4 q5 _ => by rw [fh7.2.2 q q1 q2 q3 q4 q5, fh3.2.2 q q1 q2 q3 q4 q5]
  have hB7 : lm_fB M0 n M7 n7 := ⟨fun j j1 j2 j3 _ => fF j j1 j2 j3, nF⟩
  have h7 : lm_RK0 C (s + 2) (lm_ke s) M7 n7 := ⟨(hB7.cx (by rw [rA 221 (by decide) (by decide) (by decide), r0 221 (by decide)])).trans C0, by rw [fF 32 (by decide) (by decide) (by decide), f0 32 (by decide)]; exact h.2.1, by rw [fF 33 (by decide) (by decide) (by decide), f0 33 (by decide)]; exact h.2.2.1, by rw [rA 231 (by decide) (by decide) (by decide)]; exact h.2.2.2⟩
  have e207 : M7 207 = m 207 := rA 207 (by decide) (by decide) (by decide)
  have e206' : M7 206 = m 206 := rA 206 (by decide) (by decide) (by decide)
  have start : ∀ R, lm_bind (lm_asI (lm_cal sc (d + 7) 78 [.ref 203, .ref 207, .int (Int32.ofNat 0), .ref 206, .ref 263, .int (Int32.ofNat 96)])) (fun v25 => lm_bind (lm_sel [(11, 49)] (some (.ref 203))) fun y26 => lm_bind (lm_asI (lm_cal sc (d + 7) y26 [.ref 203, .int v25, .int (Int32.ofInt 4)])) fun v27 => lm_if .ne v27 0 (lm_bind (lm_gI 4536 203) fun v28 => lm_bind (lm_gI 4528 203) fun v29 => lm_bind (lm_gI 4540 203) fun v30 => lm_bind (lm_gR 4526 203) fun v31 => lm_bind (lm_gR 4406 203) fun v32 => lm_bind (lm_aaR sc v32 (Int32.ofInt 5)) fun v33 => lm_bind (lm_asV (lm_cal sc (d + 7) 75 [.ref v31, .int (Int32.ofInt 0), .ref v33, .int (Int32.ofInt 0), .int ((Int32.ofInt 32) * ((v28 * v29) + v30))])) fun _ => lm_bind (lm_gR 4410 203) fun v34 => lm_bind (lm_iast v34 (Int32.ofInt 5) ((Int32.ofInt 32) * ((v28 * v29) + v30))) fun _ => lm_bind (lm_gR 4514 203) fun v35 => lm_bind (lm_gR 4406 203) fun v36 => lm_bind (lm_aaR sc v36 (Int32.ofInt 6)) fun v37 => lm_bind (lm_asV (lm_cal sc (d + 7) 75 [.ref v35, .int (Int32.ofInt 64), .ref v37, .int (Int32.ofInt 0), .int (Int32.ofInt 32)])) fun _ => lm_bind (lm_gR 4410 203) fun v38 => lm_bind (lm_iast v38 (Int32.ofInt 6) (Int32.ofInt 32)) fun _ => lm_ret (some (.int ((Int32.ofInt 32) * ((v28 * v29) + v30))))) (lm_ret (some (.int (Int32.ofInt 0))))) (lm_w M7 n7 x) = some R → lm_rn sc (d + 7) lm_m24.2.2.2.2.1 (lm_reg lm_m24.2.2.2.2.2) (121, [(0, .ref 203), (2, .int (lm_z true))], []) (lm_w m n x) = some R := by
    intro R K
    refine lm_e24_121 ?_
    unfold lm_q24_121
    repeat (first
    | ((with_reducible apply lm_sI); exact rfl)
    | ((with_reducible apply lm_sR); exact rfl)
    | ((with_reducible apply lm_sS); exact rfl; exact rfl)
    | ((with_reducible apply lm_sL); exact rfl)
    | ((with_reducible apply lm_sP); exact rfl; exact rfl)
    | ((with_reducible apply lm_sPL); exact rfl; exact rfl)
    | ((with_reducible apply lm_sAA); exact rfl; exact rfl)
    | ((with_reducible apply lm_sA); (first | exact rfl | assumption); omega)
    | ((with_reducible apply lm_sJ); (first | exact rfl | assumption); omega)
    | ((with_reducible apply lm_sB); (first | exact rfl | assumption); omega)
    | ((with_reducible apply lm_wA); (first | exact rfl | assumption); omega)
    | ((with_reducible apply lm_wJ); (first | exact rfl | assumption); omega)
    | ((with_reducible apply lm_wB); (first | exact rfl | assumption); omega)
    | ((with_reducible apply lm_sAl); (first | exact rfl | assumption); omega)
    | ((with_reducible apply lm_iW); decide))
    refine lm_cI u49 ?_
    refine lm_iT (show ¬ (1 : Int32) = 0 by decide) ?_
    rw [lm_K8, lm_K1, lm_K0, lm_K128, lm_K32, lm_K10, lm_K64, lm_K96]
    repeat (first
    | ((with_reducible apply lm_sI); exact rfl)
    | ((with_reducible apply lm_sR); exact rfl)
    | ((with_reducible apply lm_sS); exact rfl; exact rfl)
    | ((with_reducible apply lm_sL); exact rfl)
    | ((with_reducible apply lm_sP); exact rfl; exact rfl)
    | ((with_reducible apply lm_sPL); exact rfl; exact rfl)
    | ((with_reducible apply lm_sAA); exact rfl; exact rfl)
    | ((with_reducible apply lm_sA); (first | exact rfl | assumption); omega)
    | ((with_reducible apply lm_sJ); (first | exact rfl | assumption); omega)
    | ((with_reducible apply lm_sB); (first | exact rfl | assumption); omega)
    | ((with_reducible apply lm_wA); (first | exact rfl | assumption); omega)
    | ((with_reducible apply lm_wJ); (first | exact rfl | assumption); omega)
    | ((with_reducible apply lm_wB); (first | exact rfl | assumption); omega)
    | ((with_reducible apply lm_sAl); (first | exact rfl | assumption); omega)
    | ((with_reducible apply lm_iW); decide))
    refine lm_cV c1 ?_
    repeat (first
    | ((with_reducible apply lm_sI); exact rfl)
    | ((with_reducible apply lm_sR); exact rfl)
    | ((with_reducible apply lm_sS); exact rfl; exact rfl)
    | ((with_reducible apply lm_sL); exact rfl)
    | ((with_reducible apply lm_sP); exact rfl; exact rfl)
    | ((with_reducible apply lm_sPL); exact rfl; exact rfl)
    | ((with_reducible apply lm_sAA); exact rfl; exact rfl)
    | ((with_reducible apply lm_sA); (first | exact rfl | assumption); omega)
    | ((with_reducible apply lm_sJ); (first | exact rfl | assumption); omega)
    | ((with_reducible apply lm_sB); (first | exact rfl | assumption); omega)
    | ((with_reducible apply lm_wA); (first | exact rfl | assumption); omega)
    | ((with_reducible apply lm_wJ); (first | exact rfl | assumption); omega)
    | ((with_reducible apply lm_wB); (first | exact rfl | assumption); omega)
    | ((with_reducible apply lm_sAl); (first | exact rfl | assumption); omega)
    | ((with_reducible apply lm_iW); decide))
    rw [f1.1 214 (by decide) (by decide), r0 214 (by decide), h1l]
    refine lm_cV c2 ?_
    repeat (first
    | ((with_reducible apply lm_sI); exact rfl)
    | ((with_reducible apply lm_sR); exact rfl)
    | ((with_reducible apply lm_sS); exact rfl; exact rfl)
    | ((with_reducible apply lm_sL); exact rfl)
    | ((with_reducible apply lm_sP); exact rfl; exact rfl)
    | ((with_reducible apply lm_sPL); exact rfl; exact rfl)
    | ((with_reducible apply lm_sAA); exact rfl; exact rfl)
    | ((with_reducible apply lm_sA); (first | exact rfl | assumption); omega)
    | ((with_reducible apply lm_sJ); (first | exact rfl | assumption); omega)
    | ((with_reducible apply lm_sB); (first | exact rfl | assumption); omega)
    | ((with_reducible apply lm_wA); (first | exact rfl | assumption); omega)
    | ((with_reducible apply lm_wJ); (first | exact rfl | assumption); omega)
    | ((with_reducible apply lm_wB); (first | exact rfl | assumption); omega)
    | ((with_reducible apply lm_sAl); (first | exact rfl | assumption); omega)
    | ((with_reducible apply lm_iW); decide))
    refine lm_cV c3 ?_
    repeat (first
    | ((with_reducible apply lm_sI); exact rfl)
    | ((with_reducible apply lm_sR); exact rfl)
    | ((with_reducible apply lm_sS); exact rfl; exact rfl)
    | ((with_reducible apply lm_sL); exact rfl)
    | ((with_reducible apply lm_sP); exact rfl; exact rfl)
    | ((with_reducible apply lm_sPL); exact rfl; exact rfl)
    | ((with_reducible apply lm_sAA); exact rfl; exact rfl)
    | ((with_reducible apply lm_sA); (first | exact rfl | assumption); omega)
    | ((with_reducible apply lm_sJ); (first | exact rfl | assumption); omega)
    | ((with_reducible apply lm_sB); (first | exact rfl | assumption); omega)
    | ((with_reducible apply lm_wA); (first | exact rfl | assumption); omega)
    | ((with_reducible apply lm_wJ); (first | exact rfl | assumption); omega)
    | ((with_reducible apply lm_wB); (first | exact rfl | assumption); omega)
    | ((with_reducible apply lm_sAl); (first | exact rfl | assumption); omega)
    | ((with_reducible apply lm_iW); decide))
    refine lm_cV c4 ?_
    repeat (first
    | ((with_reducible apply lm_sI); exact rfl)
    | ((with_reducible apply lm_sR); exact rfl)
    | ((with_reducible apply lm_sS); exact rfl; exact rfl)
    | ((with_reducible apply lm_sL); exact rfl)
    | ((with_reducible apply lm_sP); exact rfl; exact rfl)
    | ((with_reducible apply lm_sPL); exact rfl; exact rfl)
    | ((with_reducible apply lm_sAA); exact rfl; exact rfl)
    | ((with_reducible apply lm_sA); (first | exact rfl | assumption); omega)
    | ((with_reducible apply lm_sJ); (first | exact rfl | assumption); omega)
    | ((with_reducible apply lm_sB); (first | exact rfl | assumption); omega)
    | ((with_reducible apply lm_wA); (first | exact rfl | assumption); omega)
    | ((with_reducible apply lm_wJ); (first | exact rfl | assumption); omega)
    | ((with_reducible apply lm_wB); (first | exact rfl | assumption); omega)
    | ((with_reducible apply lm_sAl); (first | exact rfl | assumption); omega)
    | ((with_reducible apply lm_iW); decide))
    refine lm_cV c5 ?_
    repeat (first
    | ((with_reducible apply lm_sI); exact rfl)
    | ((with_reducible apply lm_sR); exact rfl)
    | ((with_reducible apply lm_sS); exact rfl; exact rfl)
    | ((with_reducible apply lm_sL); exact rfl)
    | ((with_reducible apply lm_sP); exact rfl; exact rfl)
    | ((with_reducible apply lm_sPL); exact rfl; exact rfl)
    | ((with_reducible apply lm_sAA); exact rfl; exact rfl)
    | ((with_reducible apply lm_sA); (first | exact rfl | assumption); omega)
    | ((with_reducible apply lm_sJ); (first | exact rfl | assumption); omega)
    | ((with_reducible apply lm_sB); (first | exact rfl | assumption); omega)
    | ((with_reducible apply lm_wA); (first | exact rfl | assumption); omega)
    | ((with_reducible apply lm_wJ); (first | exact rfl | assumption); omega)
    | ((with_reducible apply lm_wB); (first | exact rfl | assumption); omega)
    | ((with_reducible apply lm_sAl); (first | exact rfl | assumption); omega)
    | ((with_reducible apply lm_iW); decide))
    refine lm_cV c6 ?_
    repeat (first
    | ((with_reducible apply lm_sI); exact rfl)
    | ((with_reducible apply lm_sR); exact rfl)
    | ((with_reducible apply lm_sS); exact rfl; exact rfl)
    | ((with_reducible apply lm_sL); exact rfl)
    | ((with_reducible apply lm_sP); exact rfl; exact rfl)
    | ((with_reducible apply lm_sPL); exact rfl; exact rfl)
    | ((with_reducible apply lm_sAA); exact rfl; exact rfl)
    | ((with_reducible apply lm_sA); (first | exact rfl | assumption); omega)
    | ((with_reducible apply lm_sJ); (first | exact rfl | assumption); omega)
    | ((with_reducible apply lm_sB); (first | exact rfl | assumption); omega)
    | ((with_reducible apply lm_wA); (first | exact rfl | assumption); omega)
    | ((with_reducible apply lm_wJ); (first | exact rfl | assumption); omega)
    | ((with_reducible apply lm_wB); (first | exact rfl | assumption); omega)
    | ((with_reducible apply lm_sAl); (first | exact rfl | assumption); omega)
    | ((with_reducible apply lm_iW); decide))
    refine lm_cV c7 ?_
    repeat (first
    | ((with_reducible apply lm_sI); exact rfl)
    | ((with_reducible apply lm_sR); exact rfl)
    | ((with_reducible apply lm_sS); exact rfl; exact rfl)
    | ((with_reducible apply lm_sL); exact rfl)
    | ((with_reducible apply lm_sP); exact rfl; exact rfl)
    | ((with_reducible apply lm_sPL); exact rfl; exact rfl)
    | ((with_reducible apply lm_sAA); exact rfl; exact rfl)
    | ((with_reducible apply lm_sA); (first | exact rfl | assumption); omega)
    | ((with_reducible apply lm_sJ); (first | exact rfl | assumption); omega)
    | ((with_reducible apply lm_sB); (first | exact rfl | assumption); omega)
    | ((with_reducible apply lm_wA); (first | exact rfl | assumption); omega)
    | ((with_reducible apply lm_wJ); (first | exact rfl | assumption); omega)
    | ((with_reducible apply lm_wB); (first | exact rfl | assumption); omega)
    | ((with_reducible apply lm_sAl); (first | exact rfl | assumption); omega)
    | ((with_reducible apply lm_iW); decide))
    rw [lm_K0, lm_K32, lm_K64] at K
    exact K
  rcases lm_u78 (sc := sc) (d := d) (x := x) (m := M7) (n := n7) (C := C) (P := P) (k := s + 2) (e := lm_ke s) (du := lm_ku s) (dv := lm_kv s) (q := 207) (v := 65536) (a := 0) (t := 206) (w := 65536) (f := 96) h7 (lm_ke_2 hs) (by omega) (by omega) (by rw [fF 34 (by decide) (by decide) (by decide), f0 34 (by decide)]; exact h34) (by rw [fF 35 (by decide) (by decide) (by decide), f0 35 (by decide)]; exact h35) z1 z2 z3 z4 rfl (by decide) (by omega) (by decide) (by decide) rfl (by decide) (by decide) (by decide) (by decide) (fun i hi => by rw [show 96 + i = 64 + (32 + i) by omega, v7 _ (by omega)]) with ⟨m8, n8, c8, a8, b8, g8, v8⟩ | ⟨m8, n8, c8, a8, b8, g8⟩
  · rw [e207] at a8 v8
    rw [e206'] at v8
    have u49b := lm_u49 (sc := sc) (d := d + 6) (m := m8) (n := n8) (x := x) (k := Int32.ofInt 4) true
    generalize eM9 : lm_u m8 203 4 (cond true 0 (Int32.ofInt 4)) = M9 at u49b
    have r9 : ∀ r, r ≠ 203 → M9 r = m8 r := fun r hr => by rw [← eM9, lm_u_row hr]
    have f9 : ∀ j, j ≠ 4 → M9 203 j = m8 203 j := fun j hj => by rw [← eM9, lm_u_ne (fun g => hj g.2)]
    have c10 := lm_u75 (sc := sc) (d := d + 6) (m := M9) (n := n8) (x := x) (q := 266) (p := 211) (v := 8192) (w := 65536) (a := 0) (b := 0) (l := lm_kps s) rfl rfl (by decide) (by omega) (by omega) (by decide) (by decide)
    generalize eM10 : lm_fil M9 211 0 (0 + lm_kps s) (fun i => lm_b8 (M9 266 (0 + (i - 0)))) = M10 at c10
    have r10 : ∀ r, r ≠ 211 → M10 r = M9 r := fun r hr => by rw [← eM10, lm_fl_row hr]
    generalize eM11 : lm_u M10 214 5 (Int32.ofNat (lm_kps s)) = M11
    have r11 : ∀ r, r ≠ 214 → M11 r = M10 r := fun r hr => by rw [← eM11, lm_u_row hr]
    have c12 := lm_u75 (sc := sc) (d := d + 6) (m := M11) (n := n8) (x := x) (q := 263) (p := 212) (v := 256) (w := 65536) (a := 64) (b := 0) (l := 32) rfl rfl (by decide) (by decide) (by decide) (by decide) (by decide)
    generalize eM12 : lm_fil M11 212 0 (0 + 32) (fun i => lm_b8 (M11 263 (64 + (i - 0)))) = M12 at c12
    have r12 : ∀ r, r ≠ 212 → M12 r = M11 r := fun r hr => by rw [← eM12, lm_fl_row hr]
    have fin : ∀ r, r ≠ 203 → r ≠ 211 → r ≠ 212 → r ≠ 214 → r ≠ 227 → (r < 231 ∨ 266 < r) → M12 r = m r := fun r q1 q2 q3 q4 q5 q6 => by rw [r12 r q3, r11 r q4, r10 r q2, r9 r q1, b8 r q1 q5 (by omega) (by omega) (by omega), rA r q1 q5 (by omega)]
    have e214 : ∀ j, j ≠ 5 → M12 214 j = m 214 j := fun j hj => by rw [r12 214 (by decide), ← eM11, lm_u_ne (fun g => hj g.2), r10 214 (by decide), r9 214 (by decide), b8 214 (by decide) (by decide) (by decide) (by decide) (by decide), rA 214 (by decide) (by decide) (by decide)]
    have e203 : M12 203 = M9 203 := by rw [r12 203 (by decide), r11 203 (by decide), r10 203 (by decide)]
    refine Or.inl ⟨lm_u M12 214 6 (Int32.ofNat 32), n8, start _ (lm_cI c8 ?_), a8, fun r q1 q2 q3 q4 q5 q6 => (lm_u_row q4).trans (fin r q1 q2 q3 q4 q5 q6), fun j j1 j2 j3 j4 j5 => ?_, fun q q1 q2 q3 q4 q5 q6 => by rw [g8.2 q q1 q2 q3 q4 q5 q6, nF q q1 q2 q3 q4 q5 q6], ?_, fun j j1 j2 => ?_, ?_, lm_u_eq, fun j hj => ?_, fun j hj => ?_⟩
    · repeat (first
    | ((with_reducible apply lm_sI); exact rfl)
    | ((with_reducible apply lm_sR); exact rfl)
    | ((with_reducible apply lm_sS); exact rfl; exact rfl)
    | ((with_reducible apply lm_sL); exact rfl)
    | ((with_reducible apply lm_sP); exact rfl; exact rfl)
    | ((with_reducible apply lm_sPL); exact rfl; exact rfl)
    | ((with_reducible apply lm_sAA); exact rfl; exact rfl)
    | ((with_reducible apply lm_sA); (first | exact rfl | assumption); omega)
    | ((with_reducible apply lm_sJ); (first | exact rfl | assumption); omega)
    | ((with_reducible apply lm_sB); (first | exact rfl | assumption); omega)
    | ((with_reducible apply lm_wA); (first | exact rfl | assumption); omega)
    | ((with_reducible apply lm_wJ); (first | exact rfl | assumption); omega)
    | ((with_reducible apply lm_wB); (first | exact rfl | assumption); omega)
    | ((with_reducible apply lm_sAl); (first | exact rfl | assumption); omega)
    | ((with_reducible apply lm_iW); decide))
      refine lm_cI u49b ?_
      refine lm_iT (show ¬ (1 : Int32) = 0 by decide) ?_
      repeat (first
    | ((with_reducible apply lm_sI); exact rfl)
    | ((with_reducible apply lm_sR); exact rfl)
    | ((with_reducible apply lm_sS); exact rfl; exact rfl)
    | ((with_reducible apply lm_sL); exact rfl)
    | ((with_reducible apply lm_sP); exact rfl; exact rfl)
    | ((with_reducible apply lm_sPL); exact rfl; exact rfl)
    | ((with_reducible apply lm_sAA); exact rfl; exact rfl)
    | ((with_reducible apply lm_sA); (first | exact rfl | assumption); omega)
    | ((with_reducible apply lm_sJ); (first | exact rfl | assumption); omega)
    | ((with_reducible apply lm_sB); (first | exact rfl | assumption); omega)
    | ((with_reducible apply lm_wA); (first | exact rfl | assumption); omega)
    | ((with_reducible apply lm_wJ); (first | exact rfl | assumption); omega)
    | ((with_reducible apply lm_wB); (first | exact rfl | assumption); omega)
    | ((with_reducible apply lm_sAl); (first | exact rfl | assumption); omega)
    | ((with_reducible apply lm_iW); decide))
      simp only [Nat.reduceDiv, Nat.reduceMod]
      have q32 : M9 203 32 = Int32.ofNat (s + 2) := by rw [f9 32 (by decide), g8.1 32 (by decide) (by decide) (by decide) (by decide)]; exact h7.2.1
      have q34 : M9 203 34 = Int32.ofNat (lm_ku s) := by rw [f9 34 (by decide), g8.1 34 (by decide) (by decide) (by decide) (by decide), fF 34 (by decide) (by decide) (by decide), f0 34 (by decide)]; exact h34
      have q35 : M9 203 35 = Int32.ofNat (lm_kv s) := by rw [f9 35 (by decide), g8.1 35 (by decide) (by decide) (by decide) (by decide), fF 35 (by decide) (by decide) (by decide), f0 35 (by decide)]; exact h35
      have ekp : Int32.ofNat 32 * (Int32.ofNat (lm_ku s) * Int32.ofNat (s + 2) + Int32.ofNat (lm_kv s)) = Int32.ofNat (lm_kps s) := by rw [lm_om, lm_oo, lm_om]; rfl
      rw [q32, q34, q35, lm_K0, lm_K5, lm_K6, lm_K32, lm_K64, ekp]
      repeat (first
    | ((with_reducible apply lm_sI); exact rfl)
    | ((with_reducible apply lm_sR); exact rfl)
    | ((with_reducible apply lm_sS); exact rfl; exact rfl)
    | ((with_reducible apply lm_sL); exact rfl)
    | ((with_reducible apply lm_sP); exact rfl; exact rfl)
    | ((with_reducible apply lm_sPL); exact rfl; exact rfl)
    | ((with_reducible apply lm_sAA); exact rfl; exact rfl)
    | ((with_reducible apply lm_sA); (first | exact rfl | assumption); omega)
    | ((with_reducible apply lm_sJ); (first | exact rfl | assumption); omega)
    | ((with_reducible apply lm_sB); (first | exact rfl | assumption); omega)
    | ((with_reducible apply lm_wA); (first | exact rfl | assumption); omega)
    | ((with_reducible apply lm_wJ); (first | exact rfl | assumption); omega)
    | ((with_reducible apply lm_wB); (first | exact rfl | assumption); omega)
    | ((with_reducible apply lm_sAl); (first | exact rfl | assumption); omega)
    | ((with_reducible apply lm_iW); decide))
      refine lm_cV c10 ?_
      repeat (first
    | ((with_reducible apply lm_sI); exact rfl)
    | ((with_reducible apply lm_sR); exact rfl)
    | ((with_reducible apply lm_sS); exact rfl; exact rfl)
    | ((with_reducible apply lm_sL); exact rfl)
    | ((with_reducible apply lm_sP); exact rfl; exact rfl)
    | ((with_reducible apply lm_sPL); exact rfl; exact rfl)
    | ((with_reducible apply lm_sAA); exact rfl; exact rfl)
    | ((with_reducible apply lm_sA); (first | exact rfl | assumption); omega)
    | ((with_reducible apply lm_sJ); (first | exact rfl | assumption); omega)
    | ((with_reducible apply lm_sB); (first | exact rfl | assumption); omega)
    | ((with_reducible apply lm_wA); (first | exact rfl | assumption); omega)
    | ((with_reducible apply lm_wJ); (first | exact rfl | assumption); omega)
    | ((with_reducible apply lm_wB); (first | exact rfl | assumption); omega)
    | ((with_reducible apply lm_sAl); (first | exact rfl | assumption); omega)
    | ((with_reducible apply lm_iW); decide))
      rw [eM11]
      refine lm_cV c12 ?_
      repeat (first
    | ((with_reducible apply lm_sI); exact rfl)
    | ((with_reducible apply lm_sR); exact rfl)
    | ((with_reducible apply lm_sS); exact rfl; exact rfl)
    | ((with_reducible apply lm_sL); exact rfl)
    | ((with_reducible apply lm_sP); exact rfl; exact rfl)
    | ((with_reducible apply lm_sPL); exact rfl; exact rfl)
    | ((with_reducible apply lm_sAA); exact rfl; exact rfl)
    | ((with_reducible apply lm_sA); (first | exact rfl | assumption); omega)
    | ((with_reducible apply lm_sJ); (first | exact rfl | assumption); omega)
    | ((with_reducible apply lm_sB); (first | exact rfl | assumption); omega)
    | ((with_reducible apply lm_wA); (first | exact rfl | assumption); omega)
    | ((with_reducible apply lm_wJ); (first | exact rfl | assumption); omega)
    | ((with_reducible apply lm_wB); (first | exact rfl | assumption); omega)
    | ((with_reducible apply lm_sAl); (first | exact rfl | assumption); omega)
    | ((with_reducible apply lm_iW); decide))
      rfl
    · rw [lm_u_row (by decide), e203, f9 j j1, g8.1 j j2 j3 j4 j5, fF j j2 j3 j4, f0 j j1]
    · rw [lm_u_row (by decide), e203, ← eM9, lm_u_eq]
      rfl
    · rw [lm_u_ne (fun g => j2 g.2), e214 j j1]
    · rw [lm_u_ne (by decide), r12 214 (by decide), ← eM11, lm_u_eq]
    · rw [lm_u_row (by decide), r12 211 (by decide), r11 211 (by decide), ← eM10, lm_fl_in (by omega), lm_yb_b8, Nat.zero_add, Nat.sub_zero, r9 266 (by decide), v8 j (by omega)]
      rfl
    · rw [lm_u_row (by decide), ← eM12, lm_fl_in (by omega), lm_b8b8, Nat.sub_zero, r11 263 (by decide), r10 263 (by decide), r9 263 (by decide), b8 263 (by decide) (by decide) (by decide) (by decide) (by decide), v7 j (by omega)]
  · rw [e207] at a8
    have u49b := lm_u49 (sc := sc) (d := d + 6) (m := m8) (n := n8) (x := x) (k := Int32.ofInt 4) false
    refine Or.inr ⟨lm_u m8 203 4 (Int32.ofInt 4), n8, start _ (lm_cI c8 ?_), a8, fun r q1 q2 q3 => ?_, fun j j1 j2 j3 j4 j5 => ?_, fun q q1 q2 q3 q4 q5 q6 => by rw [g8.2 q q1 q2 q3 q4 q5 q6, nF q q1 q2 q3 q4 q5 q6], lm_u_eq⟩
    · repeat (first
    | ((with_reducible apply lm_sI); exact rfl)
    | ((with_reducible apply lm_sR); exact rfl)
    | ((with_reducible apply lm_sS); exact rfl; exact rfl)
    | ((with_reducible apply lm_sL); exact rfl)
    | ((with_reducible apply lm_sP); exact rfl; exact rfl)
    | ((with_reducible apply lm_sPL); exact rfl; exact rfl)
    | ((with_reducible apply lm_sAA); exact rfl; exact rfl)
    | ((with_reducible apply lm_sA); (first | exact rfl | assumption); omega)
    | ((with_reducible apply lm_sJ); (first | exact rfl | assumption); omega)
    | ((with_reducible apply lm_sB); (first | exact rfl | assumption); omega)
    | ((with_reducible apply lm_wA); (first | exact rfl | assumption); omega)
    | ((with_reducible apply lm_wJ); (first | exact rfl | assumption); omega)
    | ((with_reducible apply lm_wB); (first | exact rfl | assumption); omega)
    | ((with_reducible apply lm_sAl); (first | exact rfl | assumption); omega)
    | ((with_reducible apply lm_iW); decide))
      refine lm_cI u49b ?_
      refine lm_iF (show ¬ ¬ (0 : Int32) = 0 by decide) ?_
      rfl
    · rw [lm_u_row q1, b8 r q1 q2 (by omega) (by omega) (by omega), rA r q1 q2 (by omega)]
    · rw [lm_u_ne (fun g => j1 g.2), g8.1 j j2 j3 j4 j5, fF j j2 j3 j4, f0 j j1]
end LMRO
