/-! ===== kemWrap of the class, second part ===== -/
theorem lm_kusz {s : Nat} (hs : s ≤ 2) : (1 ≤ lm_ku s ∧ lm_ku s ≤ 11) ∧ (1 ≤ lm_kv s ∧ lm_kv s ≤ 11) ∧ 32 * lm_ku s * (s + 2) + 32 * lm_kv s ≤ 1568 ∧ lm_kps s = 32 * lm_ku s * (s + 2) + 32 * lm_kv s := by
  match s, hs with
  | 0, _ => decide
  | 1, _ => decide
  | 2, _ => decide
section LMWD
variable {xs : List Int32} {sc : lm_H} {C : lm_CX} {d k e s : Nat} {m : lm_MI} {n : lm_ML} {x : lm_H × Nat × Nat}
theorem lm_u229' (h12 : m 44 12 = Int32.ofNat (s + 2)) (h14 : m 44 14 = Int32.ofNat (lm_ku s)) (h15 : m 44 15 = Int32.ofNat (lm_kv s)) : lm_cal sc (d + 1) 229 [.ref 44] (lm_w m n x) = some (.ok (some (.int (Int32.ofNat (lm_kps s)))), lm_w m n x) := by
  refine lm_cal_of (Y := lm_m229) rfl rfl (lm_e229_0 ?_)
  unfold lm_q229_0
  repeat (first
    | ((with_reducible apply lm_sI); exact rfl)
    | ((with_reducible apply lm_sR); exact rfl)
    | ((with_reducible apply lm_sS); exact rfl; exact rfl)
    | ((with_reducible apply lm_sL); exact rfl)
    | ((with_reducible apply lm_sP); exact rfl; exact rfl)
    | ((with_reducible apply lm_sPL); exact rfl; exact rfl)
    | ((with_reducible apply lm_sAA); exact rfl; exact rfl)
    | ((with_reducible apply lm_sA); (first | exact rfl | assumption); omega)
    | ((with_reducible apply lm_sJ); (first | exact rfl | assumption); omega)
    | ((with_reducible apply lm_sB); (first | exact rfl | assumption); omega)
    | ((with_reducible apply lm_wA); (first | exact rfl | assumption); omega)
    | ((with_reducible apply lm_wJ); (first | exact rfl | assumption); omega)
    | ((with_reducible apply lm_wB); (first | exact rfl | assumption); omega)
    | ((with_reducible apply lm_sAl); (first | exact rfl | assumption); omega)
    | ((with_reducible apply lm_iW); decide))
  simp only [Nat.reduceDiv, Nat.reduceMod]
  rw [h12, h14, h15, lm_K32, lm_om, lm_oo, lm_om]
  rfl
/-- the numbers that choose sets -/
def lm_KC (m : lm_MI) (s : Nat) : Prop := m 44 12 = Int32.ofNat (s + 2) ∧ m 44 13 = Int32.ofNat (lm_ke s) ∧ m 44 14 = Int32.ofNat (lm_ku s) ∧ m 44 15 = Int32.ofNat (lm_kv s)
def lm_wct (C : lm_CX) (K R P : Nat → Int32) (a s : Nat) : Nat → Nat := lm_ct C P (lm_ke s) (s + 2) (lm_ku s) (lm_kv s) (fun i j => lm_kAi C K (a + 384 * (s + 2)) i j) (fun j => lm_T12 K a j) (lm_bx R)
theorem lm_u161 (hC : lm_Cok xs C) (hr : ln_rt m) (ht : lm_Ktb m) (hx : lm_rom x) (hs : s ≤ 2) (hK : lm_KC m s) : (∃ m' n', lm_cal (lm_sc xs) (d + 8) 161 [.ref 44, .ref 29, .ref 27, .ref 36, .ref 38] (lm_w m n x) = some (.ok none, lm_w m' n' x) ∧ lm_kAll C (m 29) (0 + 384 * (s + 2)) (s + 2) ∧ (∀ r, (r < 5 ∨ 22 < r) → (r < 48 ∨ 75 < r) → r ≠ 36 → r ≠ 37 → r ≠ 38 → r ≠ 39 → m' r = m r) ∧ lm_fN m n m' n' ∧ m' 36 1 = Int32.ofNat (lm_kps s) ∧ m' 38 1 = Int32.ofNat 32 ∧ (∀ j, j < lm_kps s → lm_yb (m' 37 j) = lm_wct C (m 29) (m 27) (lm_kQ C (m 27) (lm_kH C (m 29) 0 (s + 2))) 0 s j) ∧ ∀ j, j < 32 → m' 39 j = lm_kQ C (m 27) (lm_kH C (m 29) 0 (s + 2)) j) ∨ ∃ m' n', lm_cal (lm_sc xs) (d + 8) 161 [.ref 44, .ref 29, .ref 27, .ref 36, .ref 38] (lm_w m n x) = some (.error (lm_xp x), lm_w m' n' (lm_xx 15 x)) ∧ ¬ lm_kAll C (m 29) (0 + 384 * (s + 2)) (s + 2) ∧ (∀ r, (r < 5 ∨ 22 < r) → (r < 48 ∨ 75 < r) → m' r = m r) ∧ lm_fN m n m' n' := by
  obtain ⟨⟨z1, z2⟩, ⟨z3, z4⟩, z5, z6⟩ := lm_kusz hs
  obtain ⟨m1, n1, c1, f1, g1, a1, b1⟩ := lm_u223 (xs := xs) (d := d + 2) (x := x) (n := n) (m := m) (k := s + 2) (q := 29) (v := 65536) (a := 0) (p := 72) (w := 34) (b := 0) (G := fun t => lm_b8 (m 29 (0 + t))) hC hr hK.1 (by omega) rfl (by decide) (by omega) (by decide) rfl (by decide) (by decide) (by decide) (fun t ht => rfl)
  have eH : ∀ i, i < 32 → m1 72 i = lm_kH C (m 29) 0 (s + 2) i := fun i hi => by
    have := b1 i hi
    rw [Nat.zero_add] at this
    exact this
  obtain ⟨m2, n2, c2, f2, g2, v2⟩ := lm_u215 (xs := xs) (d := d + 2) (x := x) (n := n1) (m := m1) (q1 := 27) (q3 := 72) (v1 := 65536) (v3 := 34) (a3 := 0) (l1 := 32) (l3 := 32) (G := lm_gw (m 27) (lm_kH C (m 29) 0 (s + 2))) hC (g1.rt hr) rfl rfl (by decide) (by decide) (by decide) (by decide) (by decide) (by decide) (fun t ht => by
    rw [f1 27 (by decide) (by decide), lm_gw, if_pos ht]) (fun t ht => by
    rw [Nat.zero_add, eH t ht, lm_gw, if_neg (by omega), Nat.add_sub_cancel_left])
  have eP : ∀ i, i < 64 → m2 73 i = lm_kQ C (m 27) (lm_kH C (m 29) 0 (s + 2)) i := v2
  generalize lm_kQ C (m 27) (lm_kH C (m 29) 0 (s + 2)) = P at *
  have r2 : ∀ r, (r < 5 ∨ 22 < r) → r ≠ 72 → r ≠ 73 → m2 r = m r := fun r q1 q2 q3 => (f2 r q1 q3).trans (f1 r q1 q2)
  have gN := g1.tr g2
  have K2 : lm_KP C P (s + 2) (lm_ke s) m2 := ⟨gN.rt hr, ⟨by rw [r2 45 (by decide) (by decide) (by decide)]; exact ht.1, by rw [r2 46 (by decide) (by decide) (by decide)]; exact ht.2⟩, by rw [r2 44 (by decide) (by decide) (by decide)]; exact hK.1, by rw [r2 44 (by decide) (by decide) (by decide)]; exact hK.2.1, fun i hi => by rw [eP i hi]⟩
  have start : ∀ R, lm_bind (lm_asV (lm_cal (lm_sc xs) (d + 7) 228 [.ref 44, .ref 29, .int (Int32.ofNat 0), .ref 27])) (fun _ => lm_bind (lm_gR 3246 44) fun v6 => lm_bind (lm_sel [(8, 229)] (some (.ref 44))) fun y7 => lm_bind (lm_asI (lm_cal (lm_sc xs) (d + 7) y7 [.ref 44])) fun v8 => lm_bind (lm_sel [(1, 133)] (some (.ref 36))) fun y9 => lm_bind (lm_asV (lm_cal (lm_sc xs) (d + 7) y9 [.ref 36, .ref v6, .int v8])) fun _ => lm_bind (lm_gR 3238 44) fun v10 => lm_bind (lm_sel [(1, 133)] (some (.ref 38))) fun y11 => lm_bind (lm_asV (lm_cal (lm_sc xs) (d + 7) y11 [.ref 38, .ref v10, .int (Int32.ofInt 32)])) fun _ => lm_ret none) (lm_w m2 n2 x) = some R → lm_cal (lm_sc xs) (d + 8) 161 [.ref 44, .ref 29, .ref 27, .ref 36, .ref 38] (lm_w m n x) = some R := by
    intro R K
    refine lm_cal_of (Y := lm_m161) rfl rfl (lm_e161_0 ?_)
    unfold lm_q161_0
    rw [lm_K0, lm_K32]
    repeat (first
    | ((with_reducible apply lm_sI); exact rfl)
    | ((with_reducible apply lm_sR); exact rfl)
    | ((with_reducible apply lm_sS); exact rfl; exact rfl)
    | ((with_reducible apply lm_sL); exact rfl)
    | ((with_reducible apply lm_sP); exact rfl; exact rfl)
    | ((with_reducible apply lm_sPL); exact rfl; exact rfl)
    | ((with_reducible apply lm_sAA); exact rfl; exact rfl)
    | ((with_reducible apply lm_sA); (first | exact rfl | assumption); omega)
    | ((with_reducible apply lm_sJ); (first | exact rfl | assumption); omega)
    | ((with_reducible apply lm_sB); (first | exact rfl | assumption); omega)
    | ((with_reducible apply lm_wA); (first | exact rfl | assumption); omega)
    | ((with_reducible apply lm_wJ); (first | exact rfl | assumption); omega)
    | ((with_reducible apply lm_wB); (first | exact rfl | assumption); omega)
    | ((with_reducible apply lm_sAl); (first | exact rfl | assumption); omega)
    | ((with_reducible apply lm_iW); decide))
    refine lm_cV c1 ?_
    repeat (first
    | ((with_reducible apply lm_sI); exact rfl)
    | ((with_reducible apply lm_sR); exact rfl)
    | ((with_reducible apply lm_sS); exact rfl; exact rfl)
    | ((with_reducible apply lm_sL); exact rfl)
    | ((with_reducible apply lm_sP); exact rfl; exact rfl)
    | ((with_reducible apply lm_sPL); exact rfl; exact rfl)
    | ((with_reducible apply lm_sAA); exact rfl; exact rfl)
    | ((with_reducible apply lm_sA); (first | exact rfl | assumption); omega)
    | ((with_reducible apply lm_sJ); (first | exact rfl | assumption); omega)
    | ((with_reducible apply lm_sB); (first | exact rfl | assumption); omega)
    | ((with_reducible apply lm_wA); (first | exact rfl | assumption); omega)
    | ((with_reducible apply lm_wJ); (first | exact rfl | assumption); omega)
    | ((with_reducible apply lm_wB); (first | exact rfl | assumption); omega)
    | ((with_reducible apply lm_sAl); (first | exact rfl | assumption); omega)
    | ((with_reducible apply lm_iW); decide))
    refine lm_cV c2 ?_
    repeat (first
    | ((with_reducible apply lm_sI); exact rfl)
    | ((with_reducible apply lm_sR); exact rfl)
    | ((with_reducible apply lm_sS); exact rfl; exact rfl)
    | ((with_reducible apply lm_sL); exact rfl)
    | ((with_reducible apply lm_sP); exact rfl; exact rfl)
    | ((with_reducible apply lm_sPL); exact rfl; exact rfl)
    | ((with_reducible apply lm_sAA); exact rfl; exact rfl)
    | ((with_reducible apply lm_sA); (first | exact rfl | assumption); omega)
    | ((with_reducible apply lm_sJ); (first | exact rfl | assumption); omega)
    | ((with_reducible apply lm_sB); (first | exact rfl | assumption); omega)
    | ((with_reducible apply lm_wA); (first | exact rfl | assumption); omega)
    | ((with_reducible apply lm_wJ); (first | exact rfl | assumption); omega)
    | ((with_reducible apply lm_wB); (first | exact rfl | assumption); omega)
    | ((with_reducible apply lm_sAl); (first | exact rfl | assumption); omega)
    | ((with_reducible apply lm_iW); decide))
    rw [lm_K32] at K
    exact K
  have e29 : m2 29 = m 29 := r2 29 (by decide) (by decide) (by decide)
  have e27 : m2 27 = m 27 := r2 27 (by decide) (by decide) (by decide)
  have e44 : m2 44 = m 44 := r2 44 (by decide) (by decide) (by decide)
  rcases lm_u228 (xs := xs) (d := d) (x := x) (m := m2) (n := n2) (C := C) (P := P) (k := s + 2) (e := lm_ke s) (du := lm_ku s) (dv := lm_kv s) (q := 29) (v := 65536) (a := 0) (t := 27) (w := 65536) hC K2 (lm_ke_2 hs) (by omega) hx (by rw [e44]; exact hK.2.2.1) (by rw [e44]; exact hK.2.2.2) z1 z2 z3 z4 z5 rfl (by decide) (by omega) (by decide) rfl (by decide) (by decide) with ⟨m3, n3, c3, a3, b3, g3, v3⟩ | ⟨m3, n3, c3, a3, b3, g3⟩
  · rw [e29, e27] at v3
    rw [e29] at a3
    have e44' : m3 44 = m 44 := by rw [b3 44 (by decide) (by decide), e44]
    have c4 := lm_u133 (sc := lm_sc xs) (d := d + 6) (m := m3) (n := n3) (x := x) (o := 36) (q := 37) (p := 75) (k := 1568) (c := lm_kps s) rfl rfl rfl rfl (by omega) (by omega)
    generalize eM4 : lm_u (lm_cp m3 37 0 75 0 (lm_kps s)) 36 1 (Int32.ofNat (lm_kps s)) = M4 at c4
    have r4 : ∀ r, r ≠ 36 → r ≠ 37 → M4 r = m3 r := fun r q1 q2 => by rw [← eM4, lm_u_row q1, lm_cp_row q2]
    have c5 := lm_u133 (sc := lm_sc xs) (d := d + 6) (m := M4) (n := n3) (x := x) (o := 38) (q := 39) (p := 73) (k := 64) (c := 32) rfl rfl rfl rfl (by decide) (by decide)
    generalize eM5 : lm_u (lm_cp M4 39 0 73 0 32) 38 1 (Int32.ofNat 32) = M5 at c5
    have r5 : ∀ r, r ≠ 38 → r ≠ 39 → M5 r = M4 r := fun r q1 q2 => by rw [← eM5, lm_u_row q1, lm_cp_row q2]
    refine Or.inl ⟨M5, n3, start _ (lm_cV c3 ?_), a3, fun r q1 q2 q3 q4 q5 q6 => ?_, ?_, ?_, ?_, fun j hj => ?_, fun j hj => ?_⟩
    · repeat (first
    | ((with_reducible apply lm_sI); exact rfl)
    | ((with_reducible apply lm_sR); exact rfl)
    | ((with_reducible apply lm_sS); exact rfl; exact rfl)
    | ((with_reducible apply lm_sL); exact rfl)
    | ((with_reducible apply lm_sP); exact rfl; exact rfl)
    | ((with_reducible apply lm_sPL); exact rfl; exact rfl)
    | ((with_reducible apply lm_sAA); exact rfl; exact rfl)
    | ((with_reducible apply lm_sA); (first | exact rfl | assumption); omega)
    | ((with_reducible apply lm_sJ); (first | exact rfl | assumption); omega)
    | ((with_reducible apply lm_sB); (first | exact rfl | assumption); omega)
    | ((with_reducible apply lm_wA); (first | exact rfl | assumption); omega)
    | ((with_reducible apply lm_wJ); (first | exact rfl | assumption); omega)
    | ((with_reducible apply lm_wB); (first | exact rfl | assumption); omega)
    | ((with_reducible apply lm_sAl); (first | exact rfl | assumption); omega)
    | ((with_reducible apply lm_iW); decide))
      refine lm_cI (lm_u229' (d := d + 6) (by rw [e44']; exact hK.1) (by rw [e44']; exact hK.2.2.1) (by rw [e44']; exact hK.2.2.2)) ?_
      repeat (first
    | ((with_reducible apply lm_sI); exact rfl)
    | ((with_reducible apply lm_sR); exact rfl)
    | ((with_reducible apply lm_sS); exact rfl; exact rfl)
    | ((with_reducible apply lm_sL); exact rfl)
    | ((with_reducible apply lm_sP); exact rfl; exact rfl)
    | ((with_reducible apply lm_sPL); exact rfl; exact rfl)
    | ((with_reducible apply lm_sAA); exact rfl; exact rfl)
    | ((with_reducible apply lm_sA); (first | exact rfl | assumption); omega)
    | ((with_reducible apply lm_sJ); (first | exact rfl | assumption); omega)
    | ((with_reducible apply lm_sB); (first | exact rfl | assumption); omega)
    | ((with_reducible apply lm_wA); (first | exact rfl | assumption); omega)
    | ((with_reducible apply lm_wJ); (first | exact rfl | assumption); omega)
    | ((with_reducible apply lm_wB); (first | exact rfl | assumption); omega)
    | ((with_reducible apply lm_sAl); (first | exact rfl | assumption); omega)
    | ((with_reducible apply lm_iW); decide))
      refine lm_cV c4 ?_
      rw [lm_K32]
      repeat (first
    | ((with_reducible apply lm_sI); exact rfl)
    | ((with_reducible apply lm_sR); exact rfl)
    | ((with_reducible apply lm_sS); exact rfl; exact rfl)
    | ((with_reducible apply lm_sL); exact rfl)
    | ((with_reducible apply lm_sP); exact rfl; exact rfl)
    | ((with_reducible apply lm_sPL); exact rfl; exact rfl)
    | ((with_reducible apply lm_sAA); exact rfl; exact rfl)
    | ((with_reducible apply lm_sA); (first | exact rfl | assumption); omega)
    | ((with_reducible apply lm_sJ); (first | exact rfl | assumption); omega)
    | ((with_reducible apply lm_sB); (first | exact rfl | assumption); omega)
    | ((with_reducible apply lm_wA); (first | exact rfl | assumption); omega)
    | ((with_reducible apply lm_wJ); (first | exact rfl | assumption); omega)
    | ((with_reducible apply lm_wB); (first | exact rfl | assumption); omega)
    | ((with_reducible apply lm_sAl); (first | exact rfl | assumption); omega)
    | ((with_reducible apply lm_iW); decide))
      exact lm_cV c5 rfl
    · rw [r5 r q5 q6, r4 r q3 q4, b3 r q1 (by omega), r2 r q1 (by omega) (by omega)]
    · refine gN.tr (g3.tr ((lm_fN.of (r4 11 (by decide) (by decide)) (r4 17 (by decide) (by decide))).tr (.of (r5 11 (by decide) (by decide)) (r5 17 (by decide) (by decide)))))
    · rw [r5 36 (by decide) (by decide), ← eM4, lm_u_eq]
    · rw [← eM5, lm_u_eq]
    · rw [r5 37 (by decide) (by decide), ← eM4, lm_u_row (by decide), lm_rc, if_pos ⟨rfl, by omega, by omega⟩, Nat.sub_zero, Nat.add_zero, v3 j (by omega)]
      rfl
    · rw [← eM5, lm_u_row (by decide), lm_rc, if_pos ⟨rfl, by omega, by omega⟩, Nat.sub_zero, Nat.add_zero, r4 73 (by decide) (by decide), b3 73 (by decide) (by decide), eP j (by omega)]
  · rw [e29] at a3
    exact Or.inr ⟨m3, n3, start _ (lm_cVe c3), a3, fun r q1 q2 => by rw [b3 r q1 (by omega), r2 r q1 (by omega) (by omega)], gN.tr g3⟩
theorem lm_ck_KC (hs : s ≤ 2) : lm_KC (lm_ck m s) s := lm_ck_v hs
/-- kemWrap of the class, RANDOM of 32 bytes -/
theorem lm_u76c {l : Nat} (hC : lm_Cok xs C) (hr : ln_rt m) (ht : lm_Ktb m) (hx : lm_rom x) (hs : s ≤ 2) (h32 : m 26 1 = Int32.ofNat 32) (hl : m 28 1 = Int32.ofNat l) (hl2 : l ≤ 65536) : ((l = 384 * (s + 2) + 32 ∧ lm_kfit (m 29) (s + 2)) ∧ ((∃ m' n', lm_cal (lm_sc xs) (d + 9) 76 [.ref 0, .int (Int32.ofNat s)] (lm_w m n x) = some (.ok (some (.int (Int32.ofNat (lm_kps s)))), lm_w m' n' x) ∧ lm_kAll C (m 29) (0 + 384 * (s + 2)) (s + 2) ∧ (∀ r, (r < 5 ∨ 22 < r) → r ≠ 44 → (r < 48 ∨ 75 < r) → r ≠ 36 → r ≠ 37 → r ≠ 38 → r ≠ 39 → m' r = m r) ∧ lm_fN m n m' n' ∧ m' 36 1 = Int32.ofNat (lm_kps s) ∧ m' 38 1 = Int32.ofNat 32 ∧ (∀ j, j < lm_kps s → lm_yb (m' 37 j) = lm_wct C (m 29) (m 27) (lm_kQ C (m 27) (lm_kH C (m 29) 0 (s + 2))) 0 s j) ∧ ∀ j, j < 32 → m' 39 j = lm_kQ C (m 27) (lm_kH C (m 29) 0 (s + 2)) j) ∨ ∃ m' n', lm_cal (lm_sc xs) (d + 9) 76 [.ref 0, .int (Int32.ofNat s)] (lm_w m n x) = some (.error (lm_xp x), lm_w m' n' (lm_xx 15 x)) ∧ ¬ lm_kAll C (m 29) (0 + 384 * (s + 2)) (s + 2) ∧ (∀ r, (r < 5 ∨ 22 < r) → r ≠ 44 → (r < 48 ∨ 75 < r) → m' r = m r) ∧ lm_fN m n m' n')) ∨ (¬ (l = 384 * (s + 2) + 32 ∧ lm_kfit (m 29) (s + 2)) ∧ ∃ m', lm_cal (lm_sc xs) (d + 9) 76 [.ref 0, .int (Int32.ofNat s)] (lm_w m n x) = some (.error (lm_xp x), lm_w m' n (lm_xx 16 x)) ∧ ∀ r, r ≠ 44 → r ≠ 70 → m' r = m r) := by
  have q0 := lm_ck_KC (m := m) hs
  have rk : ∀ r, r ≠ 44 → lm_ck m s r = m r := fun r hr => lm_ck_row hr
  obtain ⟨m1, f1, o1⟩ := lm_u159 (sc := lm_sc xs) (d := d + 6) (n := n) (x := x) (m := lm_ck m s) (k := s + 2) (l := l) q0.1 (by omega) (by rw [rk 28 (by decide)]; exact hl) hl2
  rw [rk 29 (by decide)] at o1
  have f0 : lm_fN m n m1 n := .of (by rw [f1 11 (by decide), rk 11 (by decide)]) (by rw [f1 17 (by decide), rk 17 (by decide)])
  have start : ∀ R, lm_bind (lm_asI (lm_cal (lm_sc xs) (d + 8) 159 [.ref 44, .ref 28])) (fun v7 => lm_bind (lm_asV (lm_cal (lm_sc xs) (d + 8) 160 [.int v7])) fun _ => lm_bind (lm_gR 18 0) fun v8 => lm_bind (lm_gR 2 0) fun v9 => lm_bind (lm_aaR (lm_sc xs) v9 (Int32.ofInt 1)) fun v10 => lm_bind (lm_gR 402 v10) fun v11 => lm_bind (lm_gR 2 0) fun v12 => lm_bind (lm_aaR (lm_sc xs) v12 (Int32.ofInt 0)) fun v13 => lm_bind (lm_gR 402 v13) fun v14 => lm_bind (lm_gR 2 0) fun v15 => lm_bind (lm_aaR (lm_sc xs) v15 (Int32.ofInt 5)) fun v16 => lm_bind (lm_gR 2 0) fun v17 => lm_bind (lm_aaR (lm_sc xs) v17 (Int32.ofInt 6)) fun v18 => lm_bind (lm_sel [(8, 161)] (some (.ref v8))) fun y19 => lm_bind (lm_asV (lm_cal (lm_sc xs) (d + 8) y19 [.ref v8, .ref v11, .ref v14, .ref v16, .ref v18])) fun _ => lm_bind (lm_gR 2 0) fun v20 => lm_bind (lm_aaR (lm_sc xs) v20 (Int32.ofInt 5)) fun v21 => lm_bind (lm_gI 404 v21) fun v22 => lm_ret (some (.int v22))) (lm_w (lm_ck m s) n x) = some R → lm_cal (lm_sc xs) (d + 9) 76 [.ref 0, .int (Int32.ofNat s)] (lm_w m n x) = some R := by
    intro R K
    refine lm_cal_of (Y := lm_m76) rfl rfl (lm_e76_0 ?_)
    unfold lm_q76_0
    refine lm_cV (lm_t132n (i := s) (d := d + 7) (n := 2) hs (by omega)) ?_
    rw [lm_K0, lm_K32]
    repeat (first
    | ((with_reducible apply lm_sI); exact rfl)
    | ((with_reducible apply lm_sR); exact rfl)
    | ((with_reducible apply lm_sS); exact rfl; exact rfl)
    | ((with_reducible apply lm_sL); exact rfl)
    | ((with_reducible apply lm_sP); exact rfl; exact rfl)
    | ((with_reducible apply lm_sPL); exact rfl; exact rfl)
    | ((with_reducible apply lm_sAA); exact rfl; first | exact rfl | exact lm_roO (by omega) | exact lm_roM (by omega))
    | ((with_reducible apply lm_sI); exact lm_fpL (by omega))
    | ((with_reducible apply lm_sR); exact lm_fpB (by omega))
    | ((with_reducible apply lm_sP); exact lm_fpL (by omega); exact rfl)
    | ((with_reducible apply lm_sS); exact lm_ocO (by omega); exact rfl)
    | ((with_reducible apply lm_sA); exact rfl; omega)
    | ((with_reducible apply lm_sJ); exact rfl; omega)
    | ((with_reducible apply lm_sB); (first | exact rfl | exact lm_arB (by omega) | exact lm_arM (by omega)); omega)
    | ((with_reducible apply lm_wA); exact rfl; omega)
    | ((with_reducible apply lm_wJ); exact rfl; omega)
    | ((with_reducible apply lm_wB); (first | exact rfl | exact lm_arB (by omega) | exact lm_arM (by omega)); omega)
    | ((with_reducible apply lm_sAl); (first | exact rfl | exact lm_arB (by omega) | exact lm_arM (by omega)); omega)
    | ((with_reducible apply lm_iW); decide))
    simp only [Nat.reduceDiv, Nat.reduceMod, h32]
    refine lm_neF (by omega) (by omega) (by decide) ?_
    refine lm_e76_25 ?_
    unfold lm_q76_25
    refine lm_cV (lm_u150 (d := d + 7)) ?_
    repeat (first
    | ((with_reducible apply lm_sI); exact rfl)
    | ((with_reducible apply lm_sR); exact rfl)
    | ((with_reducible apply lm_sS); exact rfl; exact rfl)
    | ((with_reducible apply lm_sL); exact rfl)
    | ((with_reducible apply lm_sP); exact rfl; exact rfl)
    | ((with_reducible apply lm_sPL); exact rfl; exact rfl)
    | ((with_reducible apply lm_sAA); exact rfl; first | exact rfl | exact lm_roO (by omega) | exact lm_roM (by omega))
    | ((with_reducible apply lm_sI); exact lm_fpL (by omega))
    | ((with_reducible apply lm_sR); exact lm_fpB (by omega))
    | ((with_reducible apply lm_sP); exact lm_fpL (by omega); exact rfl)
    | ((with_reducible apply lm_sS); exact lm_ocO (by omega); exact rfl)
    | ((with_reducible apply lm_sA); exact rfl; omega)
    | ((with_reducible apply lm_sJ); exact rfl; omega)
    | ((with_reducible apply lm_sB); (first | exact rfl | exact lm_arB (by omega) | exact lm_arM (by omega)); omega)
    | ((with_reducible apply lm_wA); exact rfl; omega)
    | ((with_reducible apply lm_wJ); exact rfl; omega)
    | ((with_reducible apply lm_wB); (first | exact rfl | exact lm_arB (by omega) | exact lm_arM (by omega)); omega)
    | ((with_reducible apply lm_sAl); (first | exact rfl | exact lm_arB (by omega) | exact lm_arM (by omega)); omega)
    | ((with_reducible apply lm_iW); decide))
    refine lm_cV (show lm_cal (lm_sc xs) (d + 8) 151 [.ref 44, .int (Int32.ofNat s)] (lm_w m n x) = some (.ok none, lm_w (lm_ck m s) n x) from lm_u151 (d := d + 7) hs) ?_
    rw [lm_K1]
    repeat (first
    | ((with_reducible apply lm_sI); exact rfl)
    | ((with_reducible apply lm_sR); exact rfl)
    | ((with_reducible apply lm_sS); exact rfl; exact rfl)
    | ((with_reducible apply lm_sL); exact rfl)
    | ((with_reducible apply lm_sP); exact rfl; exact rfl)
    | ((with_reducible apply lm_sPL); exact rfl; exact rfl)
    | ((with_reducible apply lm_sAA); exact rfl; first | exact rfl | exact lm_roO (by omega) | exact lm_roM (by omega))
    | ((with_reducible apply lm_sI); exact lm_fpL (by omega))
    | ((with_reducible apply lm_sR); exact lm_fpB (by omega))
    | ((with_reducible apply lm_sP); exact lm_fpL (by omega); exact rfl)
    | ((with_reducible apply lm_sS); exact lm_ocO (by omega); exact rfl)
    | ((with_reducible apply lm_sA); exact rfl; omega)
    | ((with_reducible apply lm_sJ); exact rfl; omega)
    | ((with_reducible apply lm_sB); (first | exact rfl | exact lm_arB (by omega) | exact lm_arM (by omega)); omega)
    | ((with_reducible apply lm_wA); exact rfl; omega)
    | ((with_reducible apply lm_wJ); exact rfl; omega)
    | ((with_reducible apply lm_wB); (first | exact rfl | exact lm_arB (by omega) | exact lm_arM (by omega)); omega)
    | ((with_reducible apply lm_sAl); (first | exact rfl | exact lm_arB (by omega) | exact lm_arM (by omega)); omega)
    | ((with_reducible apply lm_iW); decide))
    rw [lm_K1] at K
    exact K
  rcases o1 with ⟨c1, hok⟩ | ⟨c1, hno⟩
  · refine Or.inl ⟨hok, ?_⟩
    have e44 : m1 44 = lm_ck m s 44 := f1 44 (by decide)
    have rr : ∀ r, r ≠ 44 → r ≠ 70 → m1 r = m r := fun r q1 q2 => by rw [f1 r q2, rk r q1]
    have start2 : ∀ R, lm_bind (lm_asV (lm_cal (lm_sc xs) (d + 8) 161 [.ref 44, .ref 29, .ref 27, .ref 36, .ref 38])) (fun _ => lm_bind (lm_gR 2 0) fun v20 => lm_bind (lm_aaR (lm_sc xs) v20 (Int32.ofInt 5)) fun v21 => lm_bind (lm_gI 404 v21) fun v22 => lm_ret (some (.int v22))) (lm_w m1 n x) = some R → lm_cal (lm_sc xs) (d + 9) 76 [.ref 0, .int (Int32.ofNat s)] (lm_w m n x) = some R := by
      intro R K
      refine start R (lm_cI c1 ?_)
      refine lm_cV (show lm_cal (lm_sc xs) (d + 8) 160 [.int (lm_z true)] (lm_w m1 n x) = some (.ok none, lm_w m1 n x) from lm_u160 (d := d + 7)) ?_
      rw [lm_K1, lm_K0, lm_K5, lm_K6]
      repeat (first
    | ((with_reducible apply lm_sI); exact rfl)
    | ((with_reducible apply lm_sR); exact rfl)
    | ((with_reducible apply lm_sS); exact rfl; exact rfl)
    | ((with_reducible apply lm_sL); exact rfl)
    | ((with_reducible apply lm_sP); exact rfl; exact rfl)
    | ((with_reducible apply lm_sPL); exact rfl; exact rfl)
    | ((with_reducible apply lm_sAA); exact rfl; first | exact rfl | exact lm_roO (by omega) | exact lm_roM (by omega))
    | ((with_reducible apply lm_sI); exact lm_fpL (by omega))
    | ((with_reducible apply lm_sR); exact lm_fpB (by omega))
    | ((with_reducible apply lm_sP); exact lm_fpL (by omega); exact rfl)
    | ((with_reducible apply lm_sS); exact lm_ocO (by omega); exact rfl)
    | ((with_reducible apply lm_sA); exact rfl; omega)
    | ((with_reducible apply lm_sJ); exact rfl; omega)
    | ((with_reducible apply lm_sB); (first | exact rfl | exact lm_arB (by omega) | exact lm_arM (by omega)); omega)
    | ((with_reducible apply lm_wA); exact rfl; omega)
    | ((with_reducible apply lm_wJ); exact rfl; omega)
    | ((with_reducible apply lm_wB); (first | exact rfl | exact lm_arB (by omega) | exact lm_arM (by omega)); omega)
    | ((with_reducible apply lm_sAl); (first | exact rfl | exact lm_arB (by omega) | exact lm_arM (by omega)); omega)
    | ((with_reducible apply lm_iW); decide))
      rw [lm_K5] at K
      exact K
    rcases lm_u161 (xs := xs) (d := d) (x := x) (m := m1) (n := n) (C := C) (s := s) hC (f0.rt hr) ⟨by rw [rr 45 (by decide) (by decide)]; exact ht.1, by rw [rr 46 (by decide) (by decide)]; exact ht.2⟩ hx hs ⟨by rw [e44]; exact q0.1, by rw [e44]; exact q0.2.1, by rw [e44]; exact q0.2.2.1, by rw [e44]; exact q0.2.2.2⟩ with ⟨m', n', c, a1, a2, a3, a4, a5, a6, a7⟩ | ⟨m', n', c, a1, a2, a3⟩
    · rw [rr 29 (by decide) (by decide)] at a1 a6 a7
      rw [rr 27 (by decide) (by decide)] at a6 a7
      refine Or.inl ⟨m', n', start2 _ (lm_cV c ?_), a1, fun r r1 r2 r3 r4 r5 r6 r7 => by rw [a2 r r1 r3 r4 r5 r6 r7, rr r r2 (by omega)], f0.tr a3, a4, a5, a6, a7⟩
      rw [lm_K5]
      repeat (first
    | ((with_reducible apply lm_sI); exact rfl)
    | ((with_reducible apply lm_sR); exact rfl)
    | ((with_reducible apply lm_sS); exact rfl; exact rfl)
    | ((with_reducible apply lm_sL); exact rfl)
    | ((with_reducible apply lm_sP); exact rfl; exact rfl)
    | ((with_reducible apply lm_sPL); exact rfl; exact rfl)
    | ((with_reducible apply lm_sAA); exact rfl; first | exact rfl | exact lm_roO (by omega) | exact lm_roM (by omega))
    | ((with_reducible apply lm_sI); exact lm_fpL (by omega))
    | ((with_reducible apply lm_sR); exact lm_fpB (by omega))
    | ((with_reducible apply lm_sP); exact lm_fpL (by omega); exact rfl)
    | ((with_reducible apply lm_sS); exact lm_ocO (by omega); exact rfl)
    | ((with_reducible apply lm_sA); exact rfl; omega)
    | ((with_reducible apply lm_sJ); exact rfl; omega)
    | ((with_reducible apply lm_sB); (first | exact rfl | exact lm_arB (by omega) | exact lm_arM (by omega)); omega)
    | ((with_reducible apply lm_wA); exact rfl; omega)
    | ((with_reducible apply lm_wJ); exact rfl; omega)
    | ((with_reducible apply lm_wB); (first | exact rfl | exact lm_arB (by omega) | exact lm_arM (by omega)); omega)
    | ((with_reducible apply lm_sAl); (first | exact rfl | exact lm_arB (by omega) | exact lm_arM (by omega)); omega)
    | ((with_reducible apply lm_iW); decide))
      simp only [Nat.reduceDiv, Nat.reduceMod]
      rw [a4]
      rfl
    · rw [rr 29 (by decide) (by decide)] at a1
      exact Or.inr ⟨m', n', start2 _ (lm_cVe c), a1, fun r r1 r2 r3 => by rw [a2 r r1 r3, rr r r2 (by omega)], f0.tr a3⟩
  · refine Or.inr ⟨hno, m1, start _ (lm_cI c1 ?_), fun r q1 q2 => by rw [f1 r q2, rk r q1]⟩
    exact lm_cVe (show lm_cal (lm_sc xs) (d + 8) 160 [.int (lm_z false)] (lm_w m1 n x) = some (.error (lm_xp x), lm_w m1 n (lm_xx 16 x)) from lm_u160e (d := d + 7) hx)
end LMWD
