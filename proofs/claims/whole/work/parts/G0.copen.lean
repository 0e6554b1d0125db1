/-! ===== kemOpen of the class ===== -/
theorem lm_ev_t {f g : Nat → Int32} : ∀ k t, lm_ev f g k t = true ↔ ∀ i, i < k → f (t + i) = g (t + i) := by
  intro k
  induction k with
  | zero => intro t; exact ⟨fun _ i hi => absurd hi (by omega), fun _ => rfl⟩
  | succ k ih =>
    intro t
    show cond (decide (f t = g t)) (lm_ev f g k (t + 1)) false = true ↔ _
    by_cases c : f t = g t
    · rw [decide_eq_true c]
      show lm_ev f g k (t + 1) = true ↔ _
      rw [ih (t + 1)]
      constructor
      · intro h i hi
        by_cases c0 : i = 0
        · subst c0; exact c
        · have := h (i - 1) (by omega)
          rw [show t + 1 + (i - 1) = t + i by omega] at this
          exact this
      · intro h i hi
        have := h (i + 1) (by omega)
        rw [show t + (i + 1) = t + 1 + i by omega] at this
        exact this
    · rw [decide_eq_false c]
      exact ⟨fun h => Bool.noConfusion h, fun h => absurd (h 0 (by omega)) c⟩
/-- the secret key's own hash is right -/
def lm_kok (C : lm_CX) (S : Nat → Int32) (k : Nat) : Prop := ∀ t, t < 32 → lm_b8 (lm_kH C S (384 * k) k t) = lm_b8 (S (768 * k + 32 + t))
/-- the plain text -/
def ln_oR (S K : Nat → Int32) (s j : Nat) : Int32 := Int32.ofNat (ln_bv (lm_ts (lm_dM S K (lm_ku s) (lm_kv s) (s + 2)) 1) (8 * j) 8)
def ln_oP (C : lm_CX) (S K : Nat → Int32) (s : Nat) : Nat → Int32 := lm_kQ C (ln_oR S K s) (fun i => S (768 * (s + 2) + 32 + i))
def ln_oC (C : lm_CX) (S K : Nat → Int32) (s : Nat) : Nat → Nat := lm_wct C S (ln_oR S K s) (ln_oP C S K s) (384 * (s + 2)) s
def ln_oE (C : lm_CX) (S K : Nat → Int32) (s : Nat) : Prop := ∀ t, t < lm_kps s → ln_oC C S K s t = lm_yb (K t)
def lm_gx (S K : Nat → Int32) (k i : Nat) : Int32 := if i < 32 then lm_b8 (S (768 * k + 64 + i)) else lm_b8 (K (i - 32))
def ln_oJ (C : lm_CX) (S K : Nat → Int32) (s : Nat) : Nat → Int32 := lm_Hm C 12 (lm_gx S K (s + 2)) (32 + lm_kps s)
section LMOC
variable {xs : List Int32} {sc : lm_H} {C : lm_CX} {d k e s : Nat} {m : lm_MI} {n : lm_ML} {x : lm_H × Nat × Nat}
theorem lm_u163 {l : Nat} (hC : lm_Cok xs C) (hr : ln_rt m) (hk : m 44 12 = Int32.ofNat k) (hk4 : k ≤ 4) (hl : m 30 1 = Int32.ofNat l) (hl2 : l ≤ 65536) : ∃ m' n', (∀ r, (r < 5 ∨ 22 < r) → r ≠ 74 → m' r = m r) ∧ lm_fN m n m' n' ∧ (((l = 768 * k + 96 ∧ lm_kok C (m 31) k) ∧ lm_cal (lm_sc xs) (d + 6) 163 [.ref 44, .ref 30] (lm_w m n x) = some (.ok (some (.int (lm_z true))), lm_w m' n' x)) ∨ (¬ (l = 768 * k + 96 ∧ lm_kok C (m 31) k) ∧ lm_cal (lm_sc xs) (d + 6) 163 [.ref 44, .ref 30] (lm_w m n x) = some (.ok (some (.int (lm_z false))), lm_w m' n' x))) := by
  by_cases cl : l = 768 * k + 96
  · obtain ⟨m1, n1, c1, f1, g1, a1, b1⟩ := lm_u223 (xs := xs) (d := d) (x := x) (n := n) (m := m) (k := k) (q := 31) (v := 65536) (a := 384 * k) (p := 74) (w := 32) (b := 0) (G := fun t => lm_b8 (m 31 (384 * k + t))) hC hr hk hk4 rfl (by decide) (by omega) (by decide) rfl (by decide) (by decide) (by decide) (fun t ht => rfl)
    have c2 := lm_u136 (sc := lm_sc xs) (d := d + 4) (m := m1) (n := n1) (x := x) (a := 0) (l := 32) (p := 74) (q := 31) (s := 32) (r := 65536) (b := 768 * k + 32) rfl rfl (by decide) (by omega)
    have ev : lm_ev (fun t => lm_b8 (m1 74 (0 + t))) (fun t => lm_b8 (m1 31 (768 * k + 32 + t))) 32 0 = true ↔ lm_kok C (m 31) k := by
      rw [lm_ev_t]
      unfold lm_kok
      constructor
      · intro h t ht
        have := h t ht
        have b1' := b1 t ht
        simp only [Nat.zero_add] at this b1'
        rw [b1', f1 31 (by decide) (by decide)] at this
        exact this
      · intro h t ht
        have b1' := b1 t ht
        simp only [Nat.zero_add] at b1' ⊢
        rw [b1', f1 31 (by decide) (by decide)]
        exact h t ht
    have start : ∀ R, lm_when (lm_z (lm_ev (fun t => lm_b8 (m1 74 (0 + t))) (fun t => lm_b8 (m1 31 (768 * k + 32 + t))) 32 0) = 0 ∨ lm_z (lm_ev (fun t => lm_b8 (m1 74 (0 + t))) (fun t => lm_b8 (m1 31 (768 * k + 32 + t))) 32 0) = 1) inferInstance (lm_ret (some (.int (lm_z (lm_ev (fun t => lm_b8 (m1 74 (0 + t))) (fun t => lm_b8 (m1 31 (768 * k + 32 + t))) 32 0))))) (lm_w m1 n1 x) = some R → lm_cal (lm_sc xs) (d + 6) 163 [.ref 44, .ref 30] (lm_w m n x) = some R := by
      intro R K
      refine lm_cal_of (Y := lm_m163) rfl rfl (lm_e163_0 ?_)
      unfold lm_q163_0
      repeat (first
    | ((with_reducible apply lm_sI); exact rfl)
    | ((with_reducible apply lm_sR); exact rfl)
    | ((with_reducible apply lm_sS); exact rfl; exact rfl)
    | ((with_reducible apply lm_sL); exact rfl)
    | ((with_reducible apply lm_sP); exact rfl; exact rfl)
    | ((with_reducible apply lm_sPL); exact rfl; exact rfl)
    | ((with_reducible apply lm_sAA); exact rfl; exact rfl)
    | ((with_reducible apply lm_sA); (first | exact rfl | assumption); omega)
    | ((with_reducible apply lm_sJ); (first | exact rfl | assumption); omega)
    | ((with_reducible apply lm_sB); (first | exact rfl | assumption); omega)
    | ((with_reducible apply lm_wA); (first | exact rfl | assumption); omega)
    | ((with_reducible apply lm_wJ); (first | exact rfl | assumption); omega)
    | ((with_reducible apply lm_wB); (first | exact rfl | assumption); omega)
    | ((with_reducible apply lm_sAl); (first | exact rfl | assumption); omega)
    | ((with_reducible apply lm_iW); decide))
      simp only [Nat.reduceDiv, Nat.reduceMod]
      rw [hl, hk, lm_K768, lm_K96, lm_om, lm_oo]
      refine lm_eqT (by omega) (by omega) cl ?_
      repeat (first
    | ((with_reducible apply lm_sI); exact rfl)
    | ((with_reducible apply lm_sR); exact rfl)
    | ((with_reducible apply lm_sS); exact rfl; exact rfl)
    | ((with_reducible apply lm_sL); exact rfl)
    | ((with_reducible apply lm_sP); exact rfl; exact rfl)
    | ((with_reducible apply lm_sPL); exact rfl; exact rfl)
    | ((with_reducible apply lm_sAA); exact rfl; exact rfl)
    | ((with_reducible apply lm_sA); (first | exact rfl | assumption); omega)
    | ((with_reducible apply lm_sJ); (first | exact rfl | assumption); omega)
    | ((with_reducible apply lm_sB); (first | exact rfl | assumption); omega)
    | ((with_reducible apply lm_wA); (first | exact rfl | assumption); omega)
    | ((with_reducible apply lm_wJ); (first | exact rfl | assumption); omega)
    | ((with_reducible apply lm_wB); (first | exact rfl | assumption); omega)
    | ((with_reducible apply lm_sAl); (first | exact rfl | assumption); omega)
    | ((with_reducible apply lm_iW); decide))
      simp only [Nat.reduceDiv, Nat.reduceMod]
      rw [hk, lm_K384, lm_om, lm_K0]
      refine lm_cV c1 ?_
      repeat (first
    | ((with_reducible apply lm_sI); exact rfl)
    | ((with_reducible apply lm_sR); exact rfl)
    | ((with_reducible apply lm_sS); exact rfl; exact rfl)
    | ((with_reducible apply lm_sL); exact rfl)
    | ((with_reducible apply lm_sP); exact rfl; exact rfl)
    | ((with_reducible apply lm_sPL); exact rfl; exact rfl)
    | ((with_reducible apply lm_sAA); exact rfl; exact rfl)
    | ((with_reducible apply lm_sA); (first | exact rfl | assumption); omega)
    | ((with_reducible apply lm_sJ); (first | exact rfl | assumption); omega)
    | ((with_reducible apply lm_sB); (first | exact rfl | assumption); omega)
    | ((with_reducible apply lm_wA); (first | exact rfl | assumption); omega)
    | ((with_reducible apply lm_wJ); (first | exact rfl | assumption); omega)
    | ((with_reducible apply lm_wB); (first | exact rfl | assumption); omega)
    | ((with_reducible apply lm_sAl); (first | exact rfl | assumption); omega)
    | ((with_reducible apply lm_iW); decide))
      simp only [Nat.reduceDiv, Nat.reduceMod]
      rw [f1 44 (by decide) (by decide), hk, lm_K32, lm_om, lm_oo]
      exact lm_cI c2 K
    generalize lm_ev (fun t => lm_b8 (m1 74 (0 + t))) (fun t => lm_b8 (m1 31 (768 * k + 32 + t))) 32 0 = b at *
    refine ⟨m1, n1, f1, g1, ?_⟩
    cases b with
    | true => exact Or.inl ⟨⟨cl, ev.mp rfl⟩, start _ (lm_iW (by decide) rfl)⟩
    | false => exact Or.inr ⟨fun g => absurd (ev.mpr g.2) (by decide), start _ (lm_iW (by decide) rfl)⟩
  · refine ⟨m, n, fun _ _ _ => rfl, .rf, Or.inr ⟨fun g => cl g.1, ?_⟩⟩
    refine lm_cal_of (Y := lm_m163) rfl rfl (lm_e163_0 ?_)
    unfold lm_q163_0
    repeat (first
    | ((with_reducible apply lm_sI); exact rfl)
    | ((with_reducible apply lm_sR); exact rfl)
    | ((with_reducible apply lm_sS); exact rfl; exact rfl)
    | ((with_reducible apply lm_sL); exact rfl)
    | ((with_reducible apply lm_sP); exact rfl; exact rfl)
    | ((with_reducible apply lm_sPL); exact rfl; exact rfl)
    | ((with_reducible apply lm_sAA); exact rfl; exact rfl)
    | ((with_reducible apply lm_sA); (first | exact rfl | assumption); omega)
    | ((with_reducible apply lm_sJ); (first | exact rfl | assumption); omega)
    | ((with_reducible apply lm_sB); (first | exact rfl | assumption); omega)
    | ((with_reducible apply lm_wA); (first | exact rfl | assumption); omega)
    | ((with_reducible apply lm_wJ); (first | exact rfl | assumption); omega)
    | ((with_reducible apply lm_wB); (first | exact rfl | assumption); omega)
    | ((with_reducible apply lm_sAl); (first | exact rfl | assumption); omega)
    | ((with_reducible apply lm_iW); decide))
    simp only [Nat.reduceDiv, Nat.reduceMod]
    rw [hl, hk, lm_K768, lm_K96, lm_om, lm_oo]
    refine lm_eqF (by omega) (by omega) cl (lm_iW (by decide) ?_)
    rfl
theorem ln_oR_yb {S K : Nat → Int32} {j : Nat} : lm_yb (ln_oR S K s j) = ln_bv (lm_ts (lm_dM S K (lm_ku s) (lm_kv s) (s + 2)) 1) (8 * j) 8 := by
  have := lm_bv_lt (s := lm_ts (lm_dM S K (lm_ku s) (lm_kv s) (s + 2)) 1) (a := 8 * j) (d := 8)
  unfold ln_oR
  rw [lm_yb_n (by omega)]
  omega
/-- open -/
theorem lm_u164 (hC : lm_Cok xs C) (hr : ln_rt m) (ht : lm_Ktb m) (hx : lm_rom x) (hs : s ≤ 2) (hK : lm_KC m s) (hl : m 36 1 = Int32.ofNat (lm_kps s)) : (∃ m' n' b, lm_cal (lm_sc xs) (d + 8) 164 [.ref 44, .ref 31, .ref 36, .ref 38] (lm_w m n x) = some (.ok (some (.int (lm_z b))), lm_w m' n' x) ∧ lm_kAll C (m 31) (384 * (s + 2) + 384 * (s + 2)) (s + 2) ∧ (∀ r, (r < 5 ∨ 22 < r) → (r < 48 ∨ 75 < r) → r ≠ 38 → r ≠ 39 → m' r = m r) ∧ lm_fN m n m' n' ∧ m' 38 1 = Int32.ofNat 32 ∧ (b = true ↔ ln_oE C (m 31) (m 37) s) ∧ ∀ j, j < 32 → m' 39 j = cond b (ln_oP C (m 31) (m 37) s j) (ln_oJ C (m 31) (m 37) s j)) ∨ ∃ m' n', lm_cal (lm_sc xs) (d + 8) 164 [.ref 44, .ref 31, .ref 36, .ref 38] (lm_w m n x) = some (.error (lm_xp x), lm_w m' n' (lm_xx 15 x)) ∧ ¬ lm_kAll C (m 31) (384 * (s + 2) + 384 * (s + 2)) (s + 2) ∧ (∀ r, (r < 5 ∨ 22 < r) → (r < 48 ∨ 75 < r) → m' r = m r) ∧ lm_fN m n m' n' := by
  obtain ⟨⟨z1, z2⟩, ⟨z3, z4⟩, z5, z6⟩ := lm_kusz hs
  obtain ⟨m1, c1, f1, v1⟩ := lm_u230 (sc := lm_sc xs) (d := d + 3) (m := m) (n := n) (x := x) (k := s + 2) (du := lm_ku s) (dv := lm_kv s) ht hK.1 hK.2.2.1 hK.2.2.2 (by omega) z1 z2 z3 z4
  have b74 : ∀ j, j < 32 → lm_b8 (m1 74 j) = lm_b8 (ln_oR (m 31) (m 37) s j) := fun j hj => lm_b8_eq (by rw [v1 j hj, ln_oR_yb])
  have gA : lm_fN m n m1 n := .of (f1 11 (by decide) (by decide)) (f1 17 (by decide) (by decide))
  obtain ⟨m2, n2, c2, f2, g2, v2⟩ := lm_u215 (xs := xs) (d := d + 2) (x := x) (n := n) (m := m1) (q1 := 74) (q3 := 31) (v1 := 32) (v3 := 65536) (a3 := 768 * (s + 2) + 32) (l1 := 32) (l3 := 32) (G := lm_gw (ln_oR (m 31) (m 37) s) (fun i => m 31 (768 * (s + 2) + 32 + i))) hC (gA.rt hr) rfl rfl (by decide) (by decide) (by decide) (by omega) (by decide) (by decide) (fun t ht => by
    rw [b74 t ht, lm_gw, if_pos ht]) (fun t ht => by
    rw [f1 31 (by decide) (by decide), lm_gw, if_neg (by omega), Nat.add_sub_cancel_left])
  have eP : ∀ i, i < 64 → m2 73 i = ln_oP C (m 31) (m 37) s i := v2
  have r2 : ∀ r, (r < 5 ∨ 22 < r) → (r < 65 ∨ 70 < r) → r ≠ 74 → r ≠ 73 → m2 r = m r := fun r q1 q2 q3 q4 => (f2 r q1 q4).trans (f1 r q2 q3)
  have gN := gA.tr g2
  have e44 : m2 44 = m 44 := r2 44 (by decide) (by decide) (by decide) (by decide)
  have e31 : m2 31 = m 31 := r2 31 (by decide) (by decide) (by decide) (by decide)
  have e37 : m2 37 = m 37 := r2 37 (by decide) (by decide) (by decide) (by decide)
  have e74 : m2 74 = m1 74 := f2 74 (by decide) (by decide)
  have K2 : lm_KP C (ln_oP C (m 31) (m 37) s) (s + 2) (lm_ke s) m2 := ⟨gN.rt hr, ⟨by rw [r2 45 (by decide) (by decide) (by decide) (by decide)]; exact ht.1, by rw [r2 46 (by decide) (by decide) (by decide) (by decide)]; exact ht.2⟩, by rw [e44]; exact hK.1, by rw [e44]; exact hK.2.1, fun i hi => by rw [eP i hi]⟩
  have start : ∀ R, lm_bind (lm_asV (lm_cal (lm_sc xs) (d + 7) 228 [.ref 44, .ref 31, .int (Int32.ofNat (384 * (s + 2))), .ref 74])) (fun _ => lm_bind (lm_gR 3246 44) fun v9 => lm_bind (lm_gR 402 36) fun v10 => lm_bind (lm_gI 404 36) fun v11 => lm_bind (lm_asI (lm_cal (lm_sc xs) (d + 7) 136 [.ref v9, .int (Int32.ofInt 0), .ref v10, .int (Int32.ofInt 0), .int v11])) fun v12 => lm_if .eq v12 0 (lm_bind (lm_gR 3202 44) fun v13 => lm_bind (lm_sel [(2, 139)] (some (.ref v13))) fun y14 => lm_bind (lm_asR (lm_cal (lm_sc xs) (d + 7) y14 [.ref v13, .int (Int32.ofInt 12)])) fun v15 => lm_bind (lm_gI 3248 44) fun v16 => lm_bind (lm_sel [(5, 140), (6, 140), (7, 140)] (some (.ref v15))) fun y17 => lm_bind (lm_asV (lm_cal (lm_sc xs) (d + 7) y17 [.ref v15, .ref 31, .int (((Int32.ofInt 768) * v16) + (Int32.ofInt 64)), .int (Int32.ofInt 32)])) fun _ => lm_bind (lm_gR 402 36) fun v18 => lm_bind (lm_gI 404 36) fun v19 => lm_bind (lm_sel [(5, 140), (6, 140), (7, 140)] (some (.ref v15))) fun y20 => lm_bind (lm_asV (lm_cal (lm_sc xs) (d + 7) y20 [.ref v15, .ref v18, .int (Int32.ofInt 0), .int v19])) fun _ => lm_bind (lm_gR 402 38) fun v21 => lm_bind (lm_sel [(5, 143), (6, 144), (7, 145)] (some (.ref v15))) fun y22 => lm_bind (lm_asV (lm_cal (lm_sc xs) (d + 7) y22 [.ref v15, .ref v21, .int (Int32.ofInt 0), .int (Int32.ofInt 32)])) fun _ => lm_bind (lm_putf 404 38 (.int (Int32.ofInt 32))) fun _ => lm_when ((Int32.ofInt 0) = 0 ∨ (Int32.ofInt 0) = 1) inferInstance (lm_ret (some (.int (Int32.ofInt 0))))) (lm_bind (lm_gR 3238 44) fun v23 => lm_bind (lm_sel [(1, 133)] (some (.ref 38))) fun y24 => lm_bind (lm_asV (lm_cal (lm_sc xs) (d + 7) y24 [.ref 38, .ref v23, .int (Int32.ofInt 32)])) fun _ => lm_when ((Int32.ofInt 1) = 0 ∨ (Int32.ofInt 1) = 1) inferInstance (lm_ret (some (.int (Int32.ofInt 1)))))) (lm_w m2 n2 x) = some R → lm_cal (lm_sc xs) (d + 8) 164 [.ref 44, .ref 31, .ref 36, .ref 38] (lm_w m n x) = some R := by
    intro R K
    refine lm_cal_of (Y := lm_m164) rfl rfl (lm_e164_0 ?_)
    unfold lm_q164_0
    repeat (first
    | ((with_reducible apply lm_sI); exact rfl)
    | ((with_reducible apply lm_sR); exact rfl)
    | ((with_reducible apply lm_sS); exact rfl; exact rfl)
    | ((with_reducible apply lm_sL); exact rfl)
    | ((with_reducible apply lm_sP); exact rfl; exact rfl)
    | ((with_reducible apply lm_sPL); exact rfl; exact rfl)
    | ((with_reducible apply lm_sAA); exact rfl; exact rfl)
    | ((with_reducible apply lm_sA); (first | exact rfl | assumption); omega)
    | ((with_reducible apply lm_sJ); (first | exact rfl | assumption); omega)
    | ((with_reducible apply lm_sB); (first | exact rfl | assumption); omega)
    | ((with_reducible apply lm_wA); (first | exact rfl | assumption); omega)
    | ((with_reducible apply lm_wJ); (first | exact rfl | assumption); omega)
    | ((with_reducible apply lm_wB); (first | exact rfl | assumption); omega)
    | ((with_reducible apply lm_sAl); (first | exact rfl | assumption); omega)
    | ((with_reducible apply lm_iW); decide))
    refine lm_cV c1 ?_
    repeat (first
    | ((with_reducible apply lm_sI); exact rfl)
    | ((with_reducible apply lm_sR); exact rfl)
    | ((with_reducible apply lm_sS); exact rfl; exact rfl)
    | ((with_reducible apply lm_sL); exact rfl)
    | ((with_reducible apply lm_sP); exact rfl; exact rfl)
    | ((with_reducible apply lm_sPL); exact rfl; exact rfl)
    | ((with_reducible apply lm_sAA); exact rfl; exact rfl)
    | ((with_reducible apply lm_sA); (first | exact rfl | assumption); omega)
    | ((with_reducible apply lm_sJ); (first | exact rfl | assumption); omega)
    | ((with_reducible apply lm_sB); (first | exact rfl | assumption); omega)
    | ((with_reducible apply lm_wA); (first | exact rfl | assumption); omega)
    | ((with_reducible apply lm_wJ); (first | exact rfl | assumption); omega)
    | ((with_reducible apply lm_wB); (first | exact rfl | assumption); omega)
    | ((with_reducible apply lm_sAl); (first | exact rfl | assumption); omega)
    | ((with_reducible apply lm_iW); decide))
    simp only [Nat.reduceDiv, Nat.reduceMod]
    rw [f1 44 (by decide) (by decide), hK.1, lm_K768, lm_K32, lm_om, lm_oo]
    refine lm_cV c2 ?_
    repeat (first
    | ((with_reducible apply lm_sI); exact rfl)
    | ((with_reducible apply lm_sR); exact rfl)
    | ((with_reducible apply lm_sS); exact rfl; exact rfl)
    | ((with_reducible apply lm_sL); exact rfl)
    | ((with_reducible apply lm_sP); exact rfl; exact rfl)
    | ((with_reducible apply lm_sPL); exact rfl; exact rfl)
    | ((with_reducible apply lm_sAA); exact rfl; exact rfl)
    | ((with_reducible apply lm_sA); (first | exact rfl | assumption); omega)
    | ((with_reducible apply lm_sJ); (first | exact rfl | assumption); omega)
    | ((with_reducible apply lm_sB); (first | exact rfl | assumption); omega)
    | ((with_reducible apply lm_wA); (first | exact rfl | assumption); omega)
    | ((with_reducible apply lm_wJ); (first | exact rfl | assumption); omega)
    | ((with_reducible apply lm_wB); (first | exact rfl | assumption); omega)
    | ((with_reducible apply lm_sAl); (first | exact rfl | assumption); omega)
    | ((with_reducible apply lm_iW); decide))
    simp only [Nat.reduceDiv, Nat.reduceMod]
    rw [e44, hK.1, lm_K384, lm_om]
    rw [lm_K768, lm_K32] at K
    exact K
  rcases lm_u228 (xs := xs) (d := d) (x := x) (m := m2) (n := n2) (C := C) (P := ln_oP C (m 31) (m 37) s) (k := s + 2) (e := lm_ke s) (du := lm_ku s) (dv := lm_kv s) (q := 31) (v := 65536) (a := 384 * (s + 2)) (t := 74) (w := 32) hC K2 (lm_ke_2 hs) (by omega) hx (by rw [e44]; exact hK.2.2.1) (by rw [e44]; exact hK.2.2.2) z1 z2 z3 z4 z5 rfl (by decide) (by omega) (by decide) rfl (by decide) (by decide) with ⟨m3, n3, c3, a3, b3, g3, v3⟩ | ⟨m3, n3, c3, a3, b3, g3⟩
  · rw [e31] at a3
    rw [e31, e74] at v3
    have v3' : ∀ j, j < lm_kps s → lm_yb (m3 75 j) = ln_oC C (m 31) (m 37) s j := fun j hj => by
      rw [v3 j (by omega)]
      exact lm_wct_ext (C := C) (K := m 31) (K' := m 31) (R := m1 74) (R' := ln_oR (m 31) (m 37) s) (P := ln_oP C (m 31) (m 37) s) (a := 384 * (s + 2)) (a' := 384 * (s + 2)) hs (fun i _ => rfl) b74
    have rr : ∀ r, (r < 5 ∨ 22 < r) → (r < 48 ∨ 75 < r) → m3 r = m r := fun r q1 q2 => by rw [b3 r q1 (by omega), r2 r q1 (by omega) (by omega) (by omega)]
    have e44' : m3 44 = m 44 := rr 44 (by decide) (by decide)
    have e36' : m3 36 = m 36 := rr 36 (by decide) (by decide)
    have e37' : m3 37 = m 37 := rr 37 (by decide) (by decide)
    have e31' : m3 31 = m 31 := rr 31 (by decide) (by decide)
    have gM := gN.tr g3
    have c4 := lm_u136 (sc := lm_sc xs) (d := d + 6) (m := m3) (n := n3) (x := x) (a := 0) (l := lm_kps s) (p := 75) (q := 37) (s := 1568) (r := 65536) (b := 0) rfl rfl (by omega) (by omega)
    have ev : lm_ev (fun t => lm_b8 (m3 75 (0 + t))) (fun t => lm_b8 (m3 37 (0 + t))) (lm_kps s) 0 = true ↔ ln_oE C (m 31) (m 37) s := by
      rw [lm_ev_t]
      unfold ln_oE
      constructor
      · intro h t ht
        have := h t ht
        simp only [Nat.zero_add] at this
        rw [e37'] at this
        rw [← v3' t ht, lm_b8_ne this]
      · intro h t ht
        simp only [Nat.zero_add]
        rw [e37']
        exact lm_b8_eq (by rw [v3' t ht, h t ht])
    have start2 := fun R K => start R (lm_cV c3 K)
    generalize lm_ev (fun t => lm_b8 (m3 75 (0 + t))) (fun t => lm_b8 (m3 37 (0 + t))) (lm_kps s) 0 = bb at *
    cases bb with
    | true =>
      have c5 := lm_u133 (sc := lm_sc xs) (d := d + 6) (m := m3) (n := n3) (x := x) (o := 38) (q := 39) (p := 73) (k := 64) (c := 32) rfl rfl rfl rfl (by decide) (by decide)
      generalize eM5 : lm_u (lm_cp m3 39 0 73 0 32) 38 1 (Int32.ofNat 32) = M5 at c5
      have r5 : ∀ r, r ≠ 38 → r ≠ 39 → M5 r = m3 r := fun r q1 q2 => by rw [← eM5, lm_u_row q1, lm_cp_row q2]
      refine Or.inl ⟨M5, n3, true, start2 _ ?_, a3, fun r q1 q2 q3 q4 => by rw [r5 r q3 q4, rr r q1 q2], gM.tr (.of (r5 11 (by decide) (by decide)) (r5 17 (by decide) (by decide))), by rw [← eM5, lm_u_eq], ev, fun j hj => ?_⟩
      · repeat (first
    | ((with_reducible apply lm_sI); exact rfl)
    | ((with_reducible apply lm_sR); exact rfl)
    | ((with_reducible apply lm_sS); exact rfl; exact rfl)
    | ((with_reducible apply lm_sL); exact rfl)
    | ((with_reducible apply lm_sP); exact rfl; exact rfl)
    | ((with_reducible apply lm_sPL); exact rfl; exact rfl)
    | ((with_reducible apply lm_sAA); exact rfl; exact rfl)
    | ((with_reducible apply lm_sA); (first | exact rfl | assumption); omega)
    | ((with_reducible apply lm_sJ); (first | exact rfl | assumption); omega)
    | ((with_reducible apply lm_sB); (first | exact rfl | assumption); omega)
    | ((with_reducible apply lm_wA); (first | exact rfl | assumption); omega)
    | ((with_reducible apply lm_wJ); (first | exact rfl | assumption); omega)
    | ((with_reducible apply lm_wB); (first | exact rfl | assumption); omega)
    | ((with_reducible apply lm_sAl); (first | exact rfl | assumption); omega)
    | ((with_reducible apply lm_iW); decide))
        simp only [Nat.reduceDiv, Nat.reduceMod]
        rw [e36', hl, lm_K0]
        refine lm_cI c4 ?_
        refine lm_iF (show ¬ (1 : Int32) = 0 by decide) ?_
        rw [lm_K32]
        repeat (first
    | ((with_reducible apply lm_sI); exact rfl)
    | ((with_reducible apply lm_sR); exact rfl)
    | ((with_reducible apply lm_sS); exact rfl; exact rfl)
    | ((with_reducible apply lm_sL); exact rfl)
    | ((with_reducible apply lm_sP); exact rfl; exact rfl)
    | ((with_reducible apply lm_sPL); exact rfl; exact rfl)
    | ((with_reducible apply lm_sAA); exact rfl; exact rfl)
    | ((with_reducible apply lm_sA); (first | exact rfl | assumption); omega)
    | ((with_reducible apply lm_sJ); (first | exact rfl | assumption); omega)
    | ((with_reducible apply lm_sB); (first | exact rfl | assumption); omega)
    | ((with_reducible apply lm_wA); (first | exact rfl | assumption); omega)
    | ((with_reducible apply lm_wJ); (first | exact rfl | assumption); omega)
    | ((with_reducible apply lm_wB); (first | exact rfl | assumption); omega)
    | ((with_reducible apply lm_sAl); (first | exact rfl | assumption); omega)
    | ((with_reducible apply lm_iW); decide))
        refine lm_cV c5 (lm_iW (by decide) ?_)
        rfl
      · rw [← eM5, lm_u_row (by decide), lm_rc, if_pos ⟨rfl, by omega, by omega⟩, Nat.sub_zero, Nat.add_zero, b3 73 (by decide) (by decide), eP j (by omega)]
        rfl
    | false =>
      obtain ⟨m5, n5, k5, s5, f5⟩ := lm_cS (xs := xs) (d := d + 4) (x := x) (m := m3) (n := n3) (k := 12) (G := lm_gx (m 31) (m 37) (s + 2)) hC (gM.rt hr) (by decide) (by decide)
      obtain ⟨m6, n6, k6, s6, f6⟩ := lm_cA (xs := xs) (d := d + 3) (x := x) (k := 12) (q := 31) (v := 65536) (a := 768 * (s + 2) + 64) (l := 32) (L := 0) (G := lm_gx (m 31) (m 37) (s + 2)) hC (by decide) (by decide) (by decide) rfl (by omega) (by decide) (fun t ht => by
        rw [f5.1 31 (by decide), e31', Nat.zero_add, lm_gx, if_pos ht]) s5
      rw [Nat.zero_add] at s6
      obtain ⟨m7, n7, k7, s7, f7⟩ := lm_cA (xs := xs) (d := d + 3) (x := x) (k := 12) (q := 37) (v := 65536) (a := 0) (l := lm_kps s) (L := 32) (G := lm_gx (m 31) (m 37) (s + 2)) hC (by decide) (by decide) (by decide) rfl (by omega) (by decide) (fun t ht => by
        rw [f6.1 37 (by decide), f5.1 37 (by decide), e37', Nat.zero_add, lm_gx, if_neg (by omega), Nat.add_sub_cancel_left]) s6
      obtain ⟨m8, n8, k8, f8⟩ := lm_cF (xs := xs) (d := d + 3) (x := x) (k := 12) (q := 39) (v := 65536) (a := 0) (l := 32) hC (by decide) (by decide) (by decide) rfl (by decide) (by decide) (fun h => absurd h (by decide)) s7
      generalize eM9 : lm_fil m8 39 0 (0 + 32) (fun i => lm_Hm C 12 (lm_gx (m 31) (m 37) (s + 2)) (32 + lm_kps s) (i - 0)) = M9 at k8
      have r9 : ∀ r, r ≠ 39 → M9 r = m8 r := fun r hr => by rw [← eM9, lm_fl_row hr]
      have r8 : ∀ r, (r < 5 ∨ 22 < r) → m8 r = m3 r := fun r q => by rw [f8.1 r q, f7.1 r q, f6.1 r q, f5.1 r q]
      have fM : lm_fN m n (lm_u M9 38 1 (Int32.ofNat 32)) n8 := gM.tr (f5.N.tr (f6.N.tr (f7.N.tr (f8.N.tr (.of (by rw [lm_u_row (by decide), r9 11 (by decide)]) (by rw [lm_u_row (by decide), r9 17 (by decide)]))))))
      refine Or.inl ⟨lm_u M9 38 1 (Int32.ofNat 32), n8, false, start2 _ ?_, a3, fun r q1 q2 q3 q4 => by rw [lm_u_row q3, r9 r q4, r8 r q1, rr r q1 q2], fM, lm_u_eq, ev, fun j hj => ?_⟩
      · repeat (first
    | ((with_reducible apply lm_sI); exact rfl)
    | ((with_reducible apply lm_sR); exact rfl)
    | ((with_reducible apply lm_sS); exact rfl; exact rfl)
    | ((with_reducible apply lm_sL); exact rfl)
    | ((with_reducible apply lm_sP); exact rfl; exact rfl)
    | ((with_reducible apply lm_sPL); exact rfl; exact rfl)
    | ((with_reducible apply lm_sAA); exact rfl; exact rfl)
    | ((with_reducible apply lm_sA); (first | exact rfl | assumption); omega)
    | ((with_reducible apply lm_sJ); (first | exact rfl | assumption); omega)
    | ((with_reducible apply lm_sB); (first | exact rfl | assumption); omega)
    | ((with_reducible apply lm_wA); (first | exact rfl | assumption); omega)
    | ((with_reducible apply lm_wJ); (first | exact rfl | assumption); omega)
    | ((with_reducible apply lm_wB); (first | exact rfl | assumption); omega)
    | ((with_reducible apply lm_sAl); (first | exact rfl | assumption); omega)
    | ((with_reducible apply lm_iW); decide))
        simp only [Nat.reduceDiv, Nat.reduceMod]
        rw [e36', hl, lm_K0]
        refine lm_cI c4 ?_
        refine lm_iT (show (0 : Int32) = 0 by decide) ?_
        rw [lm_K12, lm_K32]
        repeat (first
    | ((with_reducible apply lm_sI); exact rfl)
    | ((with_reducible apply lm_sR); exact rfl)
    | ((with_reducible apply lm_sS); exact rfl; exact rfl)
    | ((with_reducible apply lm_sL); exact rfl)
    | ((with_reducible apply lm_sP); exact rfl; exact rfl)
    | ((with_reducible apply lm_sPL); exact rfl; exact rfl)
    | ((with_reducible apply lm_sAA); exact rfl; exact rfl)
    | ((with_reducible apply lm_sA); (first | exact rfl | assumption); omega)
    | ((with_reducible apply lm_sJ); (first | exact rfl | assumption); omega)
    | ((with_reducible apply lm_sB); (first | exact rfl | assumption); omega)
    | ((with_reducible apply lm_wA); (first | exact rfl | assumption); omega)
    | ((with_reducible apply lm_wJ); (first | exact rfl | assumption); omega)
    | ((with_reducible apply lm_wB); (first | exact rfl | assumption); omega)
    | ((with_reducible apply lm_sAl); (first | exact rfl | assumption); omega)
    | ((with_reducible apply lm_iW); decide))
        refine lm_cR k5 ?_
        repeat (first
    | ((with_reducible apply lm_sI); exact rfl)
    | ((with_reducible apply lm_sR); exact rfl)
    | ((with_reducible apply lm_sS); exact rfl; exact rfl)
    | ((with_reducible apply lm_sL); exact rfl)
    | ((with_reducible apply lm_sP); exact rfl; exact rfl)
    | ((with_reducible apply lm_sPL); exact rfl; exact rfl)
    | ((with_reducible apply lm_sAA); exact rfl; exact rfl)
    | ((with_reducible apply lm_sA); (first | exact rfl | assumption); omega)
    | ((with_reducible apply lm_sJ); (first | exact rfl | assumption); omega)
    | ((with_reducible apply lm_sB); (first | exact rfl | assumption); omega)
    | ((with_reducible apply lm_wA); (first | exact rfl | assumption); omega)
    | ((with_reducible apply lm_wJ); (first | exact rfl | assumption); omega)
    | ((with_reducible apply lm_wB); (first | exact rfl | assumption); omega)
    | ((with_reducible apply lm_sAl); (first | exact rfl | assumption); omega)
    | ((with_reducible apply lm_iW); decide))
        simp only [Nat.reduceDiv, Nat.reduceMod]
        rw [f5.1 44 (by decide), e44', hK.1, lm_K768, lm_K64, lm_om, lm_oo]
        refine lm_cV k6 ?_
        repeat (first
    | ((with_reducible apply lm_sI); exact rfl)
    | ((with_reducible apply lm_sR); exact rfl)
    | ((with_reducible apply lm_sS); exact rfl; exact rfl)
    | ((with_reducible apply lm_sL); exact rfl)
    | ((with_reducible apply lm_sP); exact rfl; exact rfl)
    | ((with_reducible apply lm_sPL); exact rfl; exact rfl)
    | ((with_reducible apply lm_sAA); exact rfl; exact rfl)
    | ((with_reducible apply lm_sA); (first | exact rfl | assumption); omega)
    | ((with_reducible apply lm_sJ); (first | exact rfl | assumption); omega)
    | ((with_reducible apply lm_sB); (first | exact rfl | assumption); omega)
    | ((with_reducible apply lm_wA); (first | exact rfl | assumption); omega)
    | ((with_reducible apply lm_wJ); (first | exact rfl | assumption); omega)
    | ((with_reducible apply lm_wB); (first | exact rfl | assumption); omega)
    | ((with_reducible apply lm_sAl); (first | exact rfl | assumption); omega)
    | ((with_reducible apply lm_iW); decide))
        simp only [Nat.reduceDiv, Nat.reduceMod]
        rw [f6.1 36 (by decide), f5.1 36 (by decide), e36', hl]
        refine lm_cV k7 ?_
        repeat (first
    | ((with_reducible apply lm_sI); exact rfl)
    | ((with_reducible apply lm_sR); exact rfl)
    | ((with_reducible apply lm_sS); exact rfl; exact rfl)
    | ((with_reducible apply lm_sL); exact rfl)
    | ((with_reducible apply lm_sP); exact rfl; exact rfl)
    | ((with_reducible apply lm_sPL); exact rfl; exact rfl)
    | ((with_reducible apply lm_sAA); exact rfl; exact rfl)
    | ((with_reducible apply lm_sA); (first | exact rfl | assumption); omega)
    | ((with_reducible apply lm_sJ); (first | exact rfl | assumption); omega)
    | ((with_reducible apply lm_sB); (first | exact rfl | assumption); omega)
    | ((with_reducible apply lm_wA); (first | exact rfl | assumption); omega)
    | ((with_reducible apply lm_wJ); (first | exact rfl | assumption); omega)
    | ((with_reducible apply lm_wB); (first | exact rfl | assumption); omega)
    | ((with_reducible apply lm_sAl); (first | exact rfl | assumption); omega)
    | ((with_reducible apply lm_iW); decide))
        refine lm_cV k8 ?_
        repeat (first
    | ((with_reducible apply lm_sI); exact rfl)
    | ((with_reducible apply lm_sR); exact rfl)
    | ((with_reducible apply lm_sS); exact rfl; exact rfl)
    | ((with_reducible apply lm_sL); exact rfl)
    | ((with_reducible apply lm_sP); exact rfl; exact rfl)
    | ((with_reducible apply lm_sPL); exact rfl; exact rfl)
    | ((with_reducible apply lm_sAA); exact rfl; exact rfl)
    | ((with_reducible apply lm_sA); (first | exact rfl | assumption); omega)
    | ((with_reducible apply lm_sJ); (first | exact rfl | assumption); omega)
    | ((with_reducible apply lm_sB); (first | exact rfl | assumption); omega)
    | ((with_reducible apply lm_wA); (first | exact rfl | assumption); omega)
    | ((with_reducible apply lm_wJ); (first | exact rfl | assumption); omega)
    | ((with_reducible apply lm_wB); (first | exact rfl | assumption); omega)
    | ((with_reducible apply lm_sAl); (first | exact rfl | assumption); omega)
    | ((with_reducible apply lm_iW); decide))
        rfl
      · rw [lm_u_row (by decide), ← eM9, lm_fl_in (by omega), Nat.sub_zero]
        rfl
  · rw [e31] at a3
    exact Or.inr ⟨m3, n3, start _ (lm_cVe c3), a3, fun r q1 q2 => by rw [b3 r q1 (by omega), r2 r q1 (by omega) (by omega) (by omega)], gN.tr g3⟩
end LMOC
