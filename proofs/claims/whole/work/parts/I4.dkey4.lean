/-! ===== dsaKeys of the class: keys, whole ===== -/
theorem lm_xS_e {C : lm_CX} {K : Nat → Int32} {e t : Nat} : lm_xS C K e t = lm_s4 e (lm_B12 C (ln_g6 K 32 (Int32.ofNat t))) 962 := by
  rw [lm_xS]
theorem lm_xA_e {C : lm_CX} {K : Nat → Int32} {a i j : Nat} : lm_xA C K a i j = lm_dw' (lm_B11 C (ln_gs K a (Int32.ofNat j) (Int32.ofNat i))) 298 := by
  rw [lm_xA]
theorem lm_xS_b {C : lm_CX} {K : Nat → Int32} {e t c : Nat} (he : e = 2 ∨ e = 4) (h : (lm_xS C K e t).1 = 256) (hc : c < 256) : -(e : Int) ≤ (lm_xS C K e t).2 c ∧ (lm_xS C K e t).2 c ≤ e := by
  have key : ∀ p : Nat × (Nat → Int), p = lm_s4 e (lm_B12 C (ln_g6 K 32 (Int32.ofNat t))) 962 → p.1 = 256 → -(e : Int) ≤ p.2 c ∧ p.2 c ≤ e := by
    intro p hp h1
    have := lm_s4_b (B := lm_B12 C (ln_g6 K 32 (Int32.ofNat t))) he 962 c
    rw [← hp] at this
    exact this (by rw [h1]; exact hc)
  exact key _ lm_xS_e h
theorem lm_xA_lt {C : lm_CX} {K : Nat → Int32} {a i j c : Nat} (h : (lm_xA C K a i j).1 = 256) (hc : c < 256) : (lm_xA C K a i j).2 c < 8380417 := by
  have key : ∀ p : Nat × (Nat → Nat), p = lm_dw' (lm_B11 C (ln_gs K a (Int32.ofNat j) (Int32.ofNat i))) 298 → p.1 = 256 → p.2 c < 8380417 := by
    intro p hp h1
    have := lm_dw_lt (B := lm_B11 C (ln_gs K a (Int32.ofNat j) (Int32.ofNat i))) 298 c
    rw [← hp] at this
    exact this (by rw [h1]; exact hc)
  exact key _ lm_xA_e h
theorem lm_xV_e {C : lm_CX} {E : Nat → Int32} {s t c : Nat} : lm_xV C E s t c = (lm_xS C E (lm_de s) t).2 c := by
  rw [lm_xV]
theorem lm_xAm_e {C : lm_CX} {E : Nat → Int32} {i t c : Nat} : lm_xAm C E i t c = (((lm_xA C E 0 i t).2 c : Nat) : Int) := by
  rw [lm_xAm]
theorem lm_xb1_ge (s : Nat) : 128 ≤ lm_xb1 s := by
  unfold lm_xb1
  exact Nat.le_add_right _ _
section LMDO
variable {xs : List Int32} {C : lm_CX} {d s : Nat} {m m0 : lm_MI} {n n0 : lm_ML} {x : lm_H × Nat × Nat}
theorem lm_u166 (hC : lm_Cok xs C) (hr : ln_rt m) (hx : lm_rom x) (hs : s ≤ 2) (h : lm_DC m s) (hz : ∀ k, k < 256 → m 77 k = Int32.ofInt (lm_zd k)) : (∃ m' n', lm_cal (lm_sc xs) (d + 7) 166 [.ref 76, .ref 27, .ref 28, .ref 30] (lm_w m n x) = some (.ok none, lm_w m' n' x) ∧ lm_xok C (lm_xE C (m 27) s) s ∧ (∀ r, (r < 5 ∨ 22 < r) → r ≠ 28 → r ≠ 29 → r ≠ 30 → r ≠ 31 → (r < 79 ∨ 190 < r) → m' r = m r) ∧ lm_fN m n m' n' ∧ m' 28 1 = Int32.ofNat (32 + 320 * lm_dk s) ∧ m' 30 1 = Int32.ofNat (lm_dss s) ∧ (∀ j, j < 32 + 320 * lm_dk s → lm_yb (m' 29 j) = lm_xpub C (lm_xE C (m 27) s) s j) ∧ ∀ j, j < lm_dss s → lm_yb (m' 31 j) = lm_xsec C (lm_xE C (m 27) s) s j) ∨ ∃ m' n', lm_cal (lm_sc xs) (d + 7) 166 [.ref 76, .ref 27, .ref 28, .ref 30] (lm_w m n x) = some (.error (lm_xp x), lm_w m' n' (lm_xx 15 x)) ∧ ¬ lm_xok C (lm_xE C (m 27) s) s ∧ (∀ r, (r < 5 ∨ 22 < r) → (r < 79 ∨ 190 < r) → m' r = m r) ∧ lm_fN m n m' n' := by
  have hkl := lm_dkl hs
  have hxb := lm_xb_b s
  have hde := lm_de_2 hs
  obtain ⟨sz1, sz2⟩ := lm_xsz s hs
  have sz3 := lm_xb1_ge s
  obtain ⟨m1, n1, c1, f1, g1, v1⟩ := lm_u231 (xs := xs) (d := d + 1) (m := m) (n := n) (x := x) (k := lm_dk s) (l := lm_dl s) hC hr h.2.1 h.2.2
  have v1' : ∀ i, i < 128 → m1 189 i = lm_xE C (m 27) s i := v1
  clear v1
  generalize lm_xE C (m 27) s = E at *
  have xa : ∀ i j, lm_xA C (m1 189) 0 i j = lm_xA C E 0 i j := fun i j => lm_xA_ext fun t ht => by rw [v1' _ (by omega)]
  have xsx : ∀ t, lm_xS C (m1 189) (lm_de s) t = lm_xS C E (lm_de s) t := fun t => lm_xS_ext fun i hi => by rw [v1' _ (by omega)]
  have D1 : lm_DC m1 s := by
    unfold lm_DC
    rw [f1 76 (by decide) (by decide) (by decide)]
    exact h
  have start : ∀ R, lm_bind (lm_asV (lm_cal (lm_sc xs) (d + 6) 232 [.ref 76, .ref 189, .int (Int32.ofNat 0)])) (fun _ => lm_rn (lm_sc xs) (d + 6) lm_m166.2.2.2.2.1 (lm_reg lm_m166.2.2.2.2.2) (17, [(0, .ref 76), (2, .ref 28), (3, .ref 30), (4, .int (Int32.ofNat 0))], [])) (lm_w m1 n1 x) = some R → lm_cal (lm_sc xs) (d + 7) 166 [.ref 76, .ref 27, .ref 28, .ref 30] (lm_w m n x) = some R := by
    intro R K
    refine lm_cal_of (Y := lm_m166) rfl rfl (lm_e166_0 ?_)
    unfold lm_q166_0
    repeat (first
    | ((with_reducible apply lm_sI); exact rfl)
    | ((with_reducible apply lm_sR); exact rfl)
    | ((with_reducible apply lm_sS); exact rfl; exact rfl)
    | ((with_reducible apply lm_sL); exact rfl)
    | ((with_reducible apply lm_sP); exact rfl; exact rfl)
    | ((with_reducible apply lm_sPL); exact rfl; exact rfl)
    | ((with_reducible apply lm_sAA); exact rfl; exact rfl)
    | ((with_reducible apply lm_sA); (first | exact rfl | assumption); omega)
    | ((with_reducible apply lm_sJ); (first | exact rfl | assumption); omega)
    | ((with_reducible apply lm_sB); (first | exact rfl | assumption); omega)
    | ((with_reducible apply lm_wA); (first | exact rfl | assumption); omega)
    | ((with_reducible apply lm_wJ); (first | exact rfl | assumption); omega)
    | ((with_reducible apply lm_wB); (first | exact rfl | assumption); omega)
    | ((with_reducible apply lm_sAl); (first | exact rfl | assumption); omega)
    | ((with_reducible apply lm_iW); decide))
    refine lm_cV c1 ?_
    rw [lm_K0]
    repeat (first
    | ((with_reducible apply lm_sI); exact rfl)
    | ((with_reducible apply lm_sR); exact rfl)
    | ((with_reducible apply lm_sS); exact rfl; exact rfl)
    | ((with_reducible apply lm_sL); exact rfl)
    | ((with_reducible apply lm_sP); exact rfl; exact rfl)
    | ((with_reducible apply lm_sPL); exact rfl; exact rfl)
    | ((with_reducible apply lm_sAA); exact rfl; exact rfl)
    | ((with_reducible apply lm_sA); (first | exact rfl | assumption); omega)
    | ((with_reducible apply lm_sJ); (first | exact rfl | assumption); omega)
    | ((with_reducible apply lm_sB); (first | exact rfl | assumption); omega)
    | ((with_reducible apply lm_wA); (first | exact rfl | assumption); omega)
    | ((with_reducible apply lm_wJ); (first | exact rfl | assumption); omega)
    | ((with_reducible apply lm_wB); (first | exact rfl | assumption); omega)
    | ((with_reducible apply lm_sAl); (first | exact rfl | assumption); omega)
    | ((with_reducible apply lm_iW); decide))
    exact K
  rcases lm_u232 (xs := xs) (d := d) (m := m1) (n := n1) (x := x) (k := lm_dk s) (l := lm_dl s) (q := 189) (v := 128) (a := 0) hC (g1.rt hr) hx D1.2.1 D1.2.2 hkl.1 hkl.2.1 rfl (by decide) (by decide) with ⟨m2, n2, c2, f2, g2, v2⟩ | ⟨R, ⟨m2, n2, eR, f2, g2, i, j, hi, hj, hn⟩, c2⟩
  · have e76 : m2 76 = m1 76 := f2 76 (by decide) (by decide) (by decide) (by decide)
    have e189 : m2 189 = m1 189 := f2 189 (by decide) (by decide) (by decide) (by decide)
    have D2 : lm_DC m2 s := by
      unfold lm_DC
      rw [e76]
      exact D1
    rcases lm_l166a (xs := xs) (d := d) (m := m2) (n := n2) (x := x) (s := s) hC (g2.rt (g1.rt hr)) hx hs D2 with ⟨m3, n3, ⟨f3, g3, v3⟩, k3⟩ | ⟨R, ⟨m3, n3, eR, f3, g3, t, ht, hn⟩, k3⟩
    · have xok : lm_xok C E s := ⟨fun i j hi hj => by rw [← xa]; exact (v2 i j hi hj).1, fun t ht => by rw [← xsx, ← e189]; exact (v3 t ht).1⟩
      generalize eM : lm_cp (lm_cp (lm_cp m3 29 0 189 0 32) 31 0 189 0 32) 31 32 189 96 32 = M
      have rM : ∀ r, r ≠ 29 → r ≠ 31 → M r = m3 r := fun r q1 q2 => by rw [← eM, lm_cp_row q2, lm_cp_row q2, lm_cp_row q1]
      have e189' : ∀ i, i < 128 → m3 189 i = E i := fun i hi => by rw [f3 189 (by decide) (by decide) (by decide) (by decide), e189, v1' i hi]
      have pM : ∀ j, j < 32 → M 29 j = E j := fun j hj => by
        rw [← eM, lm_cp_row (by decide), lm_cp_row (by decide), lm_rc, if_pos ⟨rfl, by omega, by omega⟩, Nat.sub_zero, Nat.add_zero, e189' j (by omega)]
      have sM : ∀ j, j < 64 → M 31 j = if j < 32 then E j else E (64 + j) := fun j hj => by
        by_cases c : j < 32
        · rw [if_pos c, ← eM, lm_rc, if_neg (by omega), lm_rc, if_pos ⟨rfl, by omega, by omega⟩, lm_cp_row (by decide), Nat.sub_zero, Nat.add_zero, e189' j (by omega)]
        · rw [if_neg c, ← eM, lm_rc, if_pos ⟨rfl, by omega, by omega⟩, lm_cp_row (by decide), lm_cp_row (by decide), show j - 32 + 96 = 64 + j by omega, e189' _ (by omega)]
      have D3 : lm_DC M s := by
        unfold lm_DC
        rw [rM 76 (by decide) (by decide), f3 76 (by decide) (by decide) (by decide) (by decide)]
        exact D2
      have vV : ∀ t, t < lm_dl s + lm_dk s → ∀ c, c < 256 → M (136 + t) c = Int32.ofInt (lm_xV C E s t c) ∧ -(lm_de s : Int) ≤ lm_xV C E s t c ∧ lm_xV C E s t c ≤ lm_de s := fun t ht c hc => by
        obtain ⟨q1, q2⟩ := v3 t ht
        rw [e189, xsx] at q1 q2
        rw [lm_xV_e]
        exact ⟨by rw [rM _ (by omega) (by omega)]; exact q2 c hc, lm_xS_b hde q1 hc⟩
      obtain ⟨m4, f4, a4, b4, k4⟩ := lm_l166b (xs := xs) (d := d) (n := n3) (x := x) (m := M) (s := s) (b0 := 128) (V := lm_xV C E s) hs D3 vV (by decide)
      have D4 : lm_DC m4 s := by
        unfold lm_DC
        rw [f4 76 (by decide) (by decide)]
        exact D3
      have z4 : ∀ k, k < 256 → m4 77 k = Int32.ofInt (lm_zd k) := fun k hk => by
        rw [f4 77 (by decide) (by decide), rM 77 (by decide) (by decide), f3 77 (by decide) (by decide) (by decide) (by decide), f2 77 (by decide) (by decide) (by decide) (by decide), f1 77 (by decide) (by decide) (by decide)]
        exact hz k hk
      have v4 : ∀ t, t < lm_dl s + lm_dk s → ∀ c, c < 256 → m4 (136 + t) c = Int32.ofInt (lm_xV C E s t c) ∧ -4 ≤ lm_xV C E s t c ∧ lm_xV C E s t c ≤ 4 := fun t ht c hc => by
        obtain ⟨q1, q2, q3⟩ := vV t ht c hc
        refine ⟨by rw [f4 _ (by omega) (by omega)]; exact q1, by omega, by omega⟩
      obtain ⟨m5, f5, u5, k5⟩ := lm_l166c (xs := xs) (d := d) (n := n3) (x := x) (m := m4) (s := s) (V := lm_xV C E s) (x4 := Int32.ofNat (lm_xb1 s)) hs D4 z4 (fun t ht c hc => v4 t (by omega) c hc)
      have D5 : lm_DC m5 s := by
        unfold lm_DC
        rw [f5 76 (by omega)]
        exact D4
      obtain ⟨m6, f6, a6, b6, o6, w6, k6⟩ := lm_l166d (xs := xs) (d := d) (n := n3) (x := x) (m := m5) (s := s) (V := lm_xV C E s) (A := lm_xAm C E) (b1 := lm_xb1 s) hs D5 (fun k hk => by rw [f5 77 (by omega)]; exact z4 k hk) sz2 (fun i t hi ht c hc => by
        have hil : i * lm_dl s + lm_dl s ≤ 8 * 7 := by
          rw [← Nat.succ_mul]
          exact Nat.mul_le_mul (by omega) hkl.2.1
        obtain ⟨q1, q2⟩ := v2 i t hi ht
        rw [xa] at q1 q2
        have q4 := lm_xA_lt q1 hc
        rw [lm_xAm_e]
        refine ⟨?_, by omega⟩
        rw [f5 _ (by omega), f4 _ (by omega) (by omega), rM _ (by omega) (by omega), f3 _ (by omega) (by omega) (by omega) (by omega), q2 c hc, lm_oN]) u5 (fun i hi c hc => by rw [f5 _ (by omega)]; exact v4 _ (by omega) c hc)
      have D6 : lm_DC m6 s := by
        unfold lm_DC
        rw [f6 76 (by decide) (by decide) (by decide) (by decide) (by decide)]
        exact D5
      have pub : ∀ j, j < 32 + 320 * lm_dk s → lm_yb (m6 29 j) = lm_xpub C E s j := fun j hj => by
        unfold lm_xpub
        by_cases c : j < 32
        · rw [if_pos c, a6 j c, f5 29 (by omega), f4 29 (by decide) (by decide), pM j c]
        · rw [if_neg c]
          have := b6 (j - 32) (by omega)
          rw [show 32 + (j - 32) = j by omega] at this
          rw [this]
          rfl
      generalize eM6 : lm_u m6 28 1 (Int32.ofNat (32 + 320 * lm_dk s)) = M6
      have rM6 : ∀ r, r ≠ 28 → M6 r = m6 r := fun r hr => by rw [← eM6, lm_u_row hr]
      have NA : lm_fN m n M6 n3 := g1.tr (g2.tr (g3.tr (.of (by rw [rM6 11 (by decide), f6 11 (by decide) (by decide) (by decide) (by decide) (by decide), f5 11 (by omega), f4 11 (by decide) (by decide), rM 11 (by decide) (by decide)]) (by rw [rM6 17 (by decide), f6 17 (by decide) (by decide) (by decide) (by decide) (by decide), f5 17 (by omega), f4 17 (by decide) (by decide), rM 17 (by decide) (by decide)]))))
      obtain ⟨m7, n7, c7, f7, g7, a7, b7⟩ := lm_u240 (xs := xs) (d := d + 1) (m := M6) (n := n3) (x := x) (q := 29) (v := 65536) (a := 0) (l := 32 + 320 * lm_dk s) (p := 31) (w := 65536) (b := 64) (G := fun t => lm_b8 (Int32.ofNat (lm_xpub C E s t))) hC (NA.rt hr) rfl (by decide) (by omega) (by decide) rfl (by decide) (by decide) (by decide) (fun t ht => by
        rw [rM6 29 (by decide), Nat.zero_add]
        refine lm_b8_eq ?_
        have := lm_xpub_lt (C := C) (E := E) (s := s) (j := t)
        rw [pub t ht, lm_yb_n (by omega), Nat.mod_eq_of_lt this])
      have D7 : lm_DC m7 s := by
        unfold lm_DC
        rw [f7 76 (by decide) (by decide), rM6 76 (by decide)]
        exact D6
      have e29 : m7 29 = m6 29 := by rw [f7 29 (by decide) (by decide), rM6 29 (by decide)]
      refine Or.inl ⟨lm_u m7 30 1 (Int32.ofNat (lm_dss s)), n7, start _ (lm_cV c2 (k3 _ (lm_e166_17 ?_))), xok, fun r q1 q2 q3 q4 q5 q6 => ?_, ?_, ?_, lm_u_eq, fun j hj => ?_, fun j hj => ?_⟩
      · clear v2 v3 xok
        unfold lm_q166_17
        repeat (first
    | ((with_reducible apply lm_sI); exact rfl)
    | ((with_reducible apply lm_sR); exact rfl)
    | ((with_reducible apply lm_sS); exact rfl; exact rfl)
    | ((with_reducible apply lm_sL); exact rfl)
    | ((with_reducible apply lm_sP); exact rfl; exact rfl)
    | ((with_reducible apply lm_sPL); exact rfl; exact rfl)
    | ((with_reducible apply lm_sAA); exact rfl; exact rfl)
    | ((with_reducible apply lm_sA); (first | exact rfl | assumption); omega)
    | ((with_reducible apply lm_sJ); (first | exact rfl | assumption); omega)
    | ((with_reducible apply lm_sB); (first | exact rfl | assumption); omega)
    | ((with_reducible apply lm_wA); (first | exact rfl | assumption); omega)
    | ((with_reducible apply lm_wJ); (first | exact rfl | assumption); omega)
    | ((with_reducible apply lm_wB); (first | exact rfl | assumption); omega)
    | ((with_reducible apply lm_sAl); (first | exact rfl | assumption); omega)
    | ((with_reducible apply lm_iW); decide))
        simp only [Nat.reduceDiv, Nat.reduceMod]
        rw [f3 76 (by decide) (by decide) (by decide) (by decide), D2.2.1, D2.2.2, lm_oo]
        refine lm_geT (by omega) (by omega) (by omega) ?_
        rw [lm_K0, lm_K32, lm_K96, lm_K128]
        repeat (first
    | ((with_reducible apply lm_sI); exact rfl)
    | ((with_reducible apply lm_sR); exact rfl)
    | ((with_reducible apply lm_sS); exact rfl; exact rfl)
    | ((with_reducible apply lm_sL); exact rfl)
    | ((with_reducible apply lm_sP); exact rfl; exact rfl)
    | ((with_reducible apply lm_sPL); exact rfl; exact rfl)
    | ((with_reducible apply lm_sAA); exact rfl; exact rfl)
    | ((with_reducible apply lm_sA); (first | exact rfl | assumption); omega)
    | ((with_reducible apply lm_sJ); (first | exact rfl | assumption); omega)
    | ((with_reducible apply lm_sB); (first | exact rfl | assumption); omega)
    | ((with_reducible apply lm_wA); (first | exact rfl | assumption); omega)
    | ((with_reducible apply lm_wJ); (first | exact rfl | assumption); omega)
    | ((with_reducible apply lm_wB); (first | exact rfl | assumption); omega)
    | ((with_reducible apply lm_sAl); (first | exact rfl | assumption); omega)
    | ((with_reducible apply lm_iW); decide))
        refine lm_sCp (u := 1) rfl rfl (Or.inr rfl) (by decide) (by decide) ?_
        repeat (first
    | ((with_reducible apply lm_sI); exact rfl)
    | ((with_reducible apply lm_sR); exact rfl)
    | ((with_reducible apply lm_sS); exact rfl; exact rfl)
    | ((with_reducible apply lm_sL); exact rfl)
    | ((with_reducible apply lm_sP); exact rfl; exact rfl)
    | ((with_reducible apply lm_sPL); exact rfl; exact rfl)
    | ((with_reducible apply lm_sAA); exact rfl; exact rfl)
    | ((with_reducible apply lm_sA); (first | exact rfl | assumption); omega)
    | ((with_reducible apply lm_sJ); (first | exact rfl | assumption); omega)
    | ((with_reducible apply lm_sB); (first | exact rfl | assumption); omega)
    | ((with_reducible apply lm_wA); (first | exact rfl | assumption); omega)
    | ((with_reducible apply lm_wJ); (first | exact rfl | assumption); omega)
    | ((with_reducible apply lm_wB); (first | exact rfl | assumption); omega)
    | ((with_reducible apply lm_sAl); (first | exact rfl | assumption); omega)
    | ((with_reducible apply lm_iW); decide))
        refine lm_sCp (u := 1) rfl rfl (Or.inr rfl) (by decide) (by decide) ?_
        repeat (first
    | ((with_reducible apply lm_sI); exact rfl)
    | ((with_reducible apply lm_sR); exact rfl)
    | ((with_reducible apply lm_sS); exact rfl; exact rfl)
    | ((with_reducible apply lm_sL); exact rfl)
    | ((with_reducible apply lm_sP); exact rfl; exact rfl)
    | ((with_reducible apply lm_sPL); exact rfl; exact rfl)
    | ((with_reducible apply lm_sAA); exact rfl; exact rfl)
    | ((with_reducible apply lm_sA); (first | exact rfl | assumption); omega)
    | ((with_reducible apply lm_sJ); (first | exact rfl | assumption); omega)
    | ((with_reducible apply lm_sB); (first | exact rfl | assumption); omega)
    | ((with_reducible apply lm_wA); (first | exact rfl | assumption); omega)
    | ((with_reducible apply lm_wJ); (first | exact rfl | assumption); omega)
    | ((with_reducible apply lm_wB); (first | exact rfl | assumption); omega)
    | ((with_reducible apply lm_sAl); (first | exact rfl | assumption); omega)
    | ((with_reducible apply lm_iW); decide))
        refine lm_sCp (u := 1) rfl rfl (Or.inr rfl) (by decide) (by decide) ?_
        rw [eM]
        refine k4 _ (lm_e166_105 ?_)
        unfold lm_q166_105
        repeat (first
    | ((with_reducible apply lm_sI); exact rfl)
    | ((with_reducible apply lm_sR); exact rfl)
    | ((with_reducible apply lm_sS); exact rfl; exact rfl)
    | ((with_reducible apply lm_sL); exact rfl)
    | ((with_reducible apply lm_sP); exact rfl; exact rfl)
    | ((with_reducible apply lm_sPL); exact rfl; exact rfl)
    | ((with_reducible apply lm_sAA); exact rfl; exact rfl)
    | ((with_reducible apply lm_sA); (first | exact rfl | assumption); omega)
    | ((with_reducible apply lm_sJ); (first | exact rfl | assumption); omega)
    | ((with_reducible apply lm_sB); (first | exact rfl | assumption); omega)
    | ((with_reducible apply lm_wA); (first | exact rfl | assumption); omega)
    | ((with_reducible apply lm_wJ); (first | exact rfl | assumption); omega)
    | ((with_reducible apply lm_wB); (first | exact rfl | assumption); omega)
    | ((with_reducible apply lm_sAl); (first | exact rfl | assumption); omega)
    | ((with_reducible apply lm_iW); decide))
        simp only [Nat.reduceDiv, Nat.reduceMod]
        rw [D4.2.1, D4.2.2, lm_oo]
        refine lm_geT (by omega) (by omega) (by omega) ?_
        rw [lm_K0]
        refine k5 _ (lm_e166_169 ?_)
        unfold lm_q166_169
        repeat (first
    | ((with_reducible apply lm_sI); exact rfl)
    | ((with_reducible apply lm_sR); exact rfl)
    | ((with_reducible apply lm_sS); exact rfl; exact rfl)
    | ((with_reducible apply lm_sL); exact rfl)
    | ((with_reducible apply lm_sP); exact rfl; exact rfl)
    | ((with_reducible apply lm_sPL); exact rfl; exact rfl)
    | ((with_reducible apply lm_sAA); exact rfl; exact rfl)
    | ((with_reducible apply lm_sA); (first | exact rfl | assumption); omega)
    | ((with_reducible apply lm_sJ); (first | exact rfl | assumption); omega)
    | ((with_reducible apply lm_sB); (first | exact rfl | assumption); omega)
    | ((with_reducible apply lm_wA); (first | exact rfl | assumption); omega)
    | ((with_reducible apply lm_wJ); (first | exact rfl | assumption); omega)
    | ((with_reducible apply lm_wB); (first | exact rfl | assumption); omega)
    | ((with_reducible apply lm_sAl); (first | exact rfl | assumption); omega)
    | ((with_reducible apply lm_iW); decide))
        simp only [Nat.reduceDiv, Nat.reduceMod]
        rw [D5.2.2]
        refine lm_geT (by omega) (by omega) (by omega) ?_
        rw [lm_K0]
        refine k6 _ (lm_e166_198 ?_)
        unfold lm_q166_198
        repeat (first
    | ((with_reducible apply lm_sI); exact rfl)
    | ((with_reducible apply lm_sR); exact rfl)
    | ((with_reducible apply lm_sS); exact rfl; exact rfl)
    | ((with_reducible apply lm_sL); exact rfl)
    | ((with_reducible apply lm_sP); exact rfl; exact rfl)
    | ((with_reducible apply lm_sPL); exact rfl; exact rfl)
    | ((with_reducible apply lm_sAA); exact rfl; exact rfl)
    | ((with_reducible apply lm_sA); (first | exact rfl | assumption); omega)
    | ((with_reducible apply lm_sJ); (first | exact rfl | assumption); omega)
    | ((with_reducible apply lm_sB); (first | exact rfl | assumption); omega)
    | ((with_reducible apply lm_wA); (first | exact rfl | assumption); omega)
    | ((with_reducible apply lm_wJ); (first | exact rfl | assumption); omega)
    | ((with_reducible apply lm_wB); (first | exact rfl | assumption); omega)
    | ((with_reducible apply lm_sAl); (first | exact rfl | assumption); omega)
    | ((with_reducible apply lm_iW); decide))
        simp only [Nat.reduceDiv, Nat.reduceMod]
        rw [D6.2.1]
        refine lm_geT (by omega) (by omega) (by omega) ?_
        repeat (first
    | ((with_reducible apply lm_sI); exact rfl)
    | ((with_reducible apply lm_sR); exact rfl)
    | ((with_reducible apply lm_sS); exact rfl; exact rfl)
    | ((with_reducible apply lm_sL); exact rfl)
    | ((with_reducible apply lm_sP); exact rfl; exact rfl)
    | ((with_reducible apply lm_sPL); exact rfl; exact rfl)
    | ((with_reducible apply lm_sAA); exact rfl; exact rfl)
    | ((with_reducible apply lm_sA); (first | exact rfl | assumption); omega)
    | ((with_reducible apply lm_sJ); (first | exact rfl | assumption); omega)
    | ((with_reducible apply lm_sB); (first | exact rfl | assumption); omega)
    | ((with_reducible apply lm_wA); (first | exact rfl | assumption); omega)
    | ((with_reducible apply lm_wJ); (first | exact rfl | assumption); omega)
    | ((with_reducible apply lm_wB); (first | exact rfl | assumption); omega)
    | ((with_reducible apply lm_sAl); (first | exact rfl | assumption); omega)
    | ((with_reducible apply lm_iW); decide))
        refine lm_cI (lm_u173' (d := d + 5) D6.2.1) ?_
        repeat (first
    | ((with_reducible apply lm_sI); exact rfl)
    | ((with_reducible apply lm_sR); exact rfl)
    | ((with_reducible apply lm_sS); exact rfl; exact rfl)
    | ((with_reducible apply lm_sL); exact rfl)
    | ((with_reducible apply lm_sP); exact rfl; exact rfl)
    | ((with_reducible apply lm_sPL); exact rfl; exact rfl)
    | ((with_reducible apply lm_sAA); exact rfl; exact rfl)
    | ((with_reducible apply lm_sA); (first | exact rfl | assumption); omega)
    | ((with_reducible apply lm_sJ); (first | exact rfl | assumption); omega)
    | ((with_reducible apply lm_sB); (first | exact rfl | assumption); omega)
    | ((with_reducible apply lm_wA); (first | exact rfl | assumption); omega)
    | ((with_reducible apply lm_wJ); (first | exact rfl | assumption); omega)
    | ((with_reducible apply lm_wB); (first | exact rfl | assumption); omega)
    | ((with_reducible apply lm_sAl); (first | exact rfl | assumption); omega)
    | ((with_reducible apply lm_iW); decide))
        rw [eM6]
        repeat (first
    | ((with_reducible apply lm_sI); exact rfl)
    | ((with_reducible apply lm_sR); exact rfl)
    | ((with_reducible apply lm_sS); exact rfl; exact rfl)
    | ((with_reducible apply lm_sL); exact rfl)
    | ((with_reducible apply lm_sP); exact rfl; exact rfl)
    | ((with_reducible apply lm_sPL); exact rfl; exact rfl)
    | ((with_reducible apply lm_sAA); exact rfl; exact rfl)
    | ((with_reducible apply lm_sA); (first | exact rfl | assumption); omega)
    | ((with_reducible apply lm_sJ); (first | exact rfl | assumption); omega)
    | ((with_reducible apply lm_sB); (first | exact rfl | assumption); omega)
    | ((with_reducible apply lm_wA); (first | exact rfl | assumption); omega)
    | ((with_reducible apply lm_wJ); (first | exact rfl | assumption); omega)
    | ((with_reducible apply lm_wB); (first | exact rfl | assumption); omega)
    | ((with_reducible apply lm_sAl); (first | exact rfl | assumption); omega)
    | ((with_reducible apply lm_iW); decide))
        simp only [Nat.reduceDiv, Nat.reduceMod]
        rw [show M6 28 1 = Int32.ofNat (32 + 320 * lm_dk s) by rw [← eM6, lm_u_eq], lm_K0, lm_K64]
        refine lm_cV c7 ?_
        repeat (first
    | ((with_reducible apply lm_sI); exact rfl)
    | ((with_reducible apply lm_sR); exact rfl)
    | ((with_reducible apply lm_sS); exact rfl; exact rfl)
    | ((with_reducible apply lm_sL); exact rfl)
    | ((with_reducible apply lm_sP); exact rfl; exact rfl)
    | ((with_reducible apply lm_sPL); exact rfl; exact rfl)
    | ((with_reducible apply lm_sAA); exact rfl; exact rfl)
    | ((with_reducible apply lm_sA); (first | exact rfl | assumption); omega)
    | ((with_reducible apply lm_sJ); (first | exact rfl | assumption); omega)
    | ((with_reducible apply lm_sB); (first | exact rfl | assumption); omega)
    | ((with_reducible apply lm_wA); (first | exact rfl | assumption); omega)
    | ((with_reducible apply lm_wJ); (first | exact rfl | assumption); omega)
    | ((with_reducible apply lm_wB); (first | exact rfl | assumption); omega)
    | ((with_reducible apply lm_sAl); (first | exact rfl | assumption); omega)
    | ((with_reducible apply lm_iW); decide))
        refine lm_cI (lm_u169' (d := d + 4) hs D7) ?_
        repeat (first
    | ((with_reducible apply lm_sI); exact rfl)
    | ((with_reducible apply lm_sR); exact rfl)
    | ((with_reducible apply lm_sS); exact rfl; exact rfl)
    | ((with_reducible apply lm_sL); exact rfl)
    | ((with_reducible apply lm_sP); exact rfl; exact rfl)
    | ((with_reducible apply lm_sPL); exact rfl; exact rfl)
    | ((with_reducible apply lm_sAA); exact rfl; exact rfl)
    | ((with_reducible apply lm_sA); (first | exact rfl | assumption); omega)
    | ((with_reducible apply lm_sJ); (first | exact rfl | assumption); omega)
    | ((with_reducible apply lm_sB); (first | exact rfl | assumption); omega)
    | ((with_reducible apply lm_wA); (first | exact rfl | assumption); omega)
    | ((with_reducible apply lm_wJ); (first | exact rfl | assumption); omega)
    | ((with_reducible apply lm_wB); (first | exact rfl | assumption); omega)
    | ((with_reducible apply lm_sAl); (first | exact rfl | assumption); omega)
    | ((with_reducible apply lm_iW); decide))
        rfl
      · rw [lm_u_row q4, f7 r q1 q5, rM6 r q2, f6 r q3 q5 (by omega) (by omega) (by omega), f5 r (by omega), f4 r (by omega) q5, rM r q3 q5, f3 r q1 (by omega) (by omega) (by omega), f2 r q1 (by omega) (by omega) (by omega), f1 r q1 (by omega) (by omega)]
      · exact NA.tr (g7.tr (.of (lm_u_row (by decide)) (lm_u_row (by decide))))
      · rw [lm_u_row (by decide), f7 28 (by decide) (by decide), ← eM6, lm_u_eq]
      · rw [lm_u_row (by decide), e29]
        exact pub j hj
      · rw [lm_u_row (by decide)]
        unfold lm_xsec
        have in31 : ∀ j, j < lm_xb1 s → m6 31 j = m4 31 j := fun j hj => by rw [o6 j hj, f5 31 (by omega)]
        by_cases c1 : j < 64
        · rw [a7 j (by omega), rM6 31 (by decide), in31 j (by omega), a4 j (by omega), sM j c1]
          by_cases c0 : j < 32
          · rw [if_pos c0, if_pos c0]
          · rw [if_neg c0, if_neg c0, if_pos c1]
        · rw [if_neg (by omega), if_neg c1]
          by_cases c2 : j < 128
          · rw [if_pos c2]
            have := b7 (j - 64) (by omega)
            rw [show 64 + (j - 64) = j by omega] at this
            rw [this]
            rfl
          · rw [if_neg c2, a7 j (by omega), rM6 31 (by decide)]
            by_cases c3 : j < lm_xb1 s
            · rw [if_pos c3, in31 j c3]
              have := b4 (j - 128) (by unfold lm_xb1 at c3; omega)
              rw [show 128 + (j - 128) = j by omega] at this
              exact this
            · rw [if_neg c3]
              have := w6 (j - lm_xb1 s) (by omega)
              rw [show lm_xb1 s + (j - lm_xb1 s) = j by omega] at this
              rw [this]
              rfl
    · rw [eR] at k3
      refine Or.inr ⟨m3, n3, start _ (lm_cV c2 k3), fun g => hn (by rw [e189, xsx]; exact g.2 t ht), fun r q1 q2 => by rw [f3 r q1 (by omega) (by omega) (by omega), f2 r q1 (by omega) (by omega) (by omega), f1 r q1 (by omega) (by omega)], g1.tr (g2.tr g3)⟩
  · rw [eR] at c2
    refine Or.inr ⟨m2, n2, start _ (lm_cVe c2), fun g => hn (by rw [xa]; exact g.1 i j hi hj), fun r q1 q2 => by rw [f2 r q1 (by omega) (by omega) (by omega), f1 r q1 (by omega) (by omega)], g1.tr g2⟩
end LMDO
