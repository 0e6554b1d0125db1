/-! ===== dsaVerify of the class: verify, the whole ===== -/
section LMVF
variable {xs : List Int32} {C : lm_CX} {d s kk xl ml : Nat} {m : lm_MI} {n : lm_ML} {x : lm_H × Nat × Nat} {X : Nat → Int32}
set_option maxRecDepth 100000 in
theorem lm_u175 (hC : lm_Cok xs C) (hr : ln_rt m) (hx : lm_rom x) (hs : s ≤ 2) (h : lm_DC m s) (hz : ∀ k, k < 256 → m 77 k = Int32.ofInt (lm_zd k)) (hl : lm_spl kk xl ≤ 332) (h4 : m 42 4 = Int32.ofNat (lm_spl kk xl)) (h5 : lm_b1 (m 42 5) = lm_z (decide (kk ≤ 1))) (hm : m 32 1 = Int32.ofNat ml) (hml : ml ≤ 65536) (hP : ∀ t, t < lm_spl kk xl → lm_b8 (m 43 t) = lm_sp X xl kk (lm_sgd C kk (m 33) ml) t) (ho : ∀ i, i < lm_dk s → lm_hr (lm_vh (m 37) s) (lm_vc (m 37) s) (lm_do s) i) (hZ : ∀ t, t < lm_dl s → ∀ c, c < 256 → m (161 + t) c = Int32.ofInt (lm_vz (m 37) s t c)) : (ln_sA C (m 29) s ∧ (lm_vB C (m 37) s).1 = 256 ∧ ∃ m' n', lm_cal (lm_sc xs) (d + 7) 175 [.ref 76, .ref 29, .ref 42, .ref 37, .ref 38] (lm_w m n x) = some (.ok (some (.int (lm_z (lm_ev (fun t => lm_b8 (lm_vC C (m 29) (m 37) (lm_vM C (m 29) s kk X xl (m 33) ml) s t)) (fun t => lm_b8 (m 37 t)) (lm_dsz s) 0)))), lm_w m' n' x) ∧ (∀ r, (r < 5 ∨ 22 < r) → r ≠ 38 → r ≠ 39 → (r < 79 ∨ 193 < r) → m' r = m r) ∧ lm_fN m n m' n' ∧ m' 38 1 = Int32.ofNat (lm_dsz s) ∧ ∀ t, t < lm_dsz s → m' 39 t = lm_vC C (m 29) (m 37) (lm_vM C (m 29) s kk X xl (m 33) ml) s t) ∨ (¬ (ln_sA C (m 29) s ∧ (lm_vB C (m 37) s).1 = 256) ∧ ∃ m' n', lm_cal (lm_sc xs) (d + 7) 175 [.ref 76, .ref 29, .ref 42, .ref 37, .ref 38] (lm_w m n x) = some (.error (lm_xp x), lm_w m' n' (lm_xx 15 x)) ∧ (∀ r, (r < 5 ∨ 22 < r) → (r < 79 ∨ 193 < r) → m' r = m r) ∧ lm_fN m n m' n') := by
  have hkl := lm_dkl hs
  have hpar := lm_dpar s hs
  rcases lm_u232 (xs := xs) (C := C) (d := d) (m := m) (n := n) (x := x) (k := lm_dk s) (l := lm_dl s) (q := 29) (v := 65536) (a := 0) hC hr hx h.2.1 h.2.2 hkl.1 hkl.2.1 rfl (by decide) (by decide) with ⟨m1, n1, c1, f1, g1, v1⟩ | ⟨R, ⟨m1, n1, eR, f1, g1, i, t, hi, ht, v1⟩, c1⟩
  · have sA : ln_sA C (m 29) s := fun i t hi ht => (v1 i t hi ht).1
    have hA1 : ∀ i t, i < lm_dk s → t < lm_dl s → ∀ c, c < 256 → m1 (79 + (i * lm_dl s + t)) c = Int32.ofInt (lm_xAm C (m 29) i t c) ∧ 0 ≤ lm_xAm C (m 29) i t c ∧ lm_xAm C (m 29) i t c ≤ 8380416 := fun i t hi ht c hc => by
      obtain ⟨w1, w2⟩ := v1 i t hi ht
      have b := lm_xA_lt w1 hc
      rw [w2 c hc, lm_oN, lm_xAm_e]
      generalize (lm_xA C (m 29) 0 i t).2 c = z at b
      exact ⟨rfl, by omega, by omega⟩
    clear v1
    have e1 : ∀ r, 22 < r → r ≠ 188 → r ≠ 190 → (r < 79 ∨ 134 < r) → m1 r = m r := fun r q1 q2 q3 q4 => f1 r (by omega) q2 q3 q4
    obtain ⟨m2, n2, c2, f2, g2, v2⟩ := lm_u254 (xs := xs) (C := C) (d := d + 1) (m := m1) (n := n1) (x := x) (s := s) (q := 37) (v := 65536) (G := fun t => lm_b8 (m 37 t)) hC (g1.rt hr) hx hs (by rw [e1 76 (by decide) (by decide) (by decide) (by decide)]; exact h.1) rfl (by decide) (by decide) (by omega) (by decide) (fun t ht => by rw [e1 37 (by decide) (by decide) (by decide) (by decide)])
    have eB : lm_vB C (m 37) s = lm_ba (lm_Hm C 12 (fun t => lm_b8 (m 37 t)) (lm_dsz s)) (lm_dt' s) 121 := by unfold lm_vB; rfl
    rw [← eB] at c2 v2
    have N2 := g1.tr g2
    have e2 : ∀ r, 22 < r → r ≠ 185 → r ≠ 188 → r ≠ 190 → (r < 79 ∨ 134 < r) → m2 r = m r := fun r q1 q2 q3 q4 q5 => by rw [f2 r (by omega) q2 q3, e1 r q1 q3 q4 q5]
    by_cases cb : (lm_vB C (m 37) s).1 = 256
    · rw [if_pos cb] at c2
      refine Or.inl ⟨sA, cb, ?_⟩
      obtain ⟨m3, U, c3, p3, u3, b3⟩ := lm_u236 (sc := lm_sc xs) (d := d + 5) (m := m2) (n := n2) (x := x) (p := 185) (G := (lm_vB C (m 37) s).2) (B := 1) rfl (by decide) (fun k hk => by rw [e2 77 (by decide) (by decide) (by decide) (by decide) (by decide)]; exact hz k hk) (by decide) (fun c hc => lm_vB_b hs c) v2
      have hB3 : lm_pts m3 185 (lm_vB C (m 37) s).2 := fun c hc => by
        have b := b3 c hc
        rw [p3.2 c hc, lm_iT0 (by omega) (by omega)]
        exact ⟨u3 c hc, by omega, by omega⟩
      have e3 : ∀ r, 22 < r → r ≠ 185 → r ≠ 188 → r ≠ 190 → (r < 79 ∨ 134 < r) → m3 r = m r := fun r q1 q2 q3 q4 q5 => by rw [p3.1 r (by omega), e2 r q1 q2 q3 q4 q5]
      have N3 : lm_fN m n m3 n2 := N2.tr (.of (p3.1 11 (by decide)) (p3.1 17 (by decide)))
      have D3 : lm_DC m3 s := by unfold lm_DC; rw [e3 76 (by decide) (by decide) (by decide) (by decide) (by decide)]; exact h
      obtain ⟨m4, n4, c4, f4, g4, k4, v4⟩ := lm_u240 (xs := xs) (C := C) (d := d + 1) (m := m3) (n := n2) (x := x) (q := 29) (v := 65536) (a := 0) (l := 32 + 320 * lm_dk s) (p := 189) (w := 128) (b := 0) (G := fun t => lm_b8 (m 29 t)) hC (N3.rt hr) rfl (by decide) (by omega) (by decide) rfl (by decide) (by decide) (by decide) (fun t ht => by rw [Nat.zero_add, e3 29 (by decide) (by decide) (by decide) (by decide) (by decide)])
      have N4 := N3.tr g4
      have e4 : ∀ r, 22 < r → r ≠ 185 → r ≠ 188 → r ≠ 189 → r ≠ 190 → (r < 79 ∨ 134 < r) → m4 r = m r := fun r q1 q2 q3 q4 q5 q6 => by rw [f4 r (by omega) q4, e3 r q1 q2 q3 q5 q6]
      obtain ⟨m5, n5, c5, f5, g5, v5⟩ := lm_u242 (xs := xs) (C := C) (d := d) (m := m4) (n := n4) (x := x) (q := 189) (v := 128) (a := 0) (kk := kk) (xl := xl) (ml := ml) (X := X) hC (N4.rt hr) hl rfl (by decide) (by decide) (by decide) (by rw [e4 42 (by decide) (by decide) (by decide) (by decide) (by decide) (by decide)]; exact h4) (by rw [e4 42 (by decide) (by decide) (by decide) (by decide) (by decide) (by decide)]; exact h5) (by rw [e4 32 (by decide) (by decide) (by decide) (by decide) (by decide) (by decide)]; exact hm) hml (fun t ht => by rw [e4 43 (by decide) (by decide) (by decide) (by decide) (by decide) (by decide), e4 33 (by decide) (by decide) (by decide) (by decide) (by decide) (by decide)]; exact hP t ht)
      have N5 := N4.tr g5
      have e5 : ∀ r, 22 < r → r ≠ 185 → r ≠ 188 → r ≠ 189 → r ≠ 190 → r ≠ 191 → (r < 79 ∨ 134 < r) → m5 r = m r := fun r q1 q2 q3 q4 q5 q6 q7 => by rw [f5 r (by omega) q6, e4 r q1 q2 q3 q4 q5 q7]
      generalize eV : lm_vM C (m 29) s kk X xl (m 33) ml = V
      have v5' : ∀ i, i < 64 → m5 191 i = V i := fun i hi => by
        rw [← eV, v5 i hi, e4 33 (by decide) (by decide) (by decide) (by decide) (by decide) (by decide)]
        unfold lm_vM
        refine lm_Hm_ext fun t ht => ?_
        unfold lm_mG
        by_cases t1 : t < 64
        · rw [if_pos t1, if_pos t1, v4 _ (by omega), Nat.zero_add]; rfl
        · rw [if_neg t1, if_neg t1]
      have D5 : lm_DC m5 s := by unfold lm_DC; rw [e5 76 (by decide) (by decide) (by decide) (by decide) (by decide) (by decide) (by decide)]; exact h
      have hz5 : ∀ k, k < 256 → m5 77 k = Int32.ofInt (lm_zd k) := fun k hk => by rw [e5 77 (by decide) (by decide) (by decide) (by decide) (by decide) (by decide) (by decide)]; exact hz k hk
      obtain ⟨m6, f6, u6, k6⟩ := lm_l175a (xs := xs) (d := d) (m := m5) (n := n5) (x := x) (s := s) (Z := lm_vz (m 37) s) hs D5 hz5 (fun t ht c hc => ⟨by rw [e5 _ (by omega) (by omega) (by omega) (by omega) (by omega) (by omega) (by omega)]; exact hZ t ht c hc, lm_vz_b hs⟩)
      have D6 : lm_DC m6 s := by unfold lm_DC; rw [f6 76 (by omega)]; exact D5
      obtain ⟨m7, f7, w7, k7⟩ := lm_l175b (xs := xs) (d := d) (m := m6) (n := n5) (x := x) (s := s) (Z := lm_vz (m 37) s) (Bc := (lm_vB C (m 37) s).2) (Am := lm_xAm C (m 29)) hs D6 (fun k hk => by rw [f6 77 (by omega)]; exact hz5 k hk) (fun i t hi ht c hc => by
        have hil : i * lm_dl s + lm_dl s ≤ 8 * 7 := by
          rw [← Nat.succ_mul]
          exact Nat.mul_le_mul (by omega) hkl.2.1
        rw [f6 _ (by omega), f5 _ (by omega) (by omega), f4 _ (by omega) (by omega), p3.1 _ (by omega), f2 _ (by omega) (by omega) (by omega)]
        exact hA1 i t hi ht c hc) u6 (lm_pts_of hB3 (by rw [f6 185 (by omega), f5 185 (by decide) (by decide), f4 185 (by decide) (by decide)]))
      have m629 : m6 29 = m 29 := by rw [f6 29 (by omega), e5 29 (by decide) (by decide) (by decide) (by decide) (by decide) (by decide) (by decide)]
      rw [m629] at w7
      have D7 : lm_DC m7 s := by unfold lm_DC; rw [f7 76 (by omega) (by omega)]; exact D6
      have m737 : m7 37 = m 37 := by rw [f7 37 (by omega) (by omega), f6 37 (by omega), e5 37 (by decide) (by decide) (by decide) (by decide) (by decide) (by decide) (by decide)]
      obtain ⟨m8, c8, f8, w8⟩ := lm_u256 (xs := xs) (d := d + 3) (m := m7) (n := n5) (x := x) (s := s) (W := fun i c => ln_vw C (m 29) (m 37) s i c) hs D7 (by rw [m737]; exact ho) (fun i hi c hc => ⟨by rw [w7 i hi c hc]; rfl, ln_vw_b⟩)
      rw [m737] at w8
      have D8 : lm_DC m8 s := by unfold lm_DC; rw [f8 76 (by omega)]; exact D7
      have N8 : lm_fN m n m8 n5 := N5.tr (.of (by rw [f8 11 (by omega), f7 11 (by omega) (by omega), f6 11 (by omega)]) (by rw [f8 17 (by omega), f7 17 (by omega) (by omega), f6 17 (by omega)]))
      have fr8 : ∀ r, (r < 5 ∨ 22 < r) → (r < 79 ∨ 193 < r) → m8 r = m r := fun r q1 q2 => by rw [f8 r (by omega), f7 r (by omega) (by omega), f6 r (by omega), f5 r q1 (by omega), f4 r q1 (by omega), p3.1 r (by omega), f2 r q1 (by omega) (by omega), f1 r q1 (by omega) (by omega) (by omega)]
      have e191 : ∀ i, i < 64 → m8 191 i = V i := fun i hi => by rw [f8 191 (by omega), f7 191 (by omega) (by omega), f6 191 (by omega)]; exact v5' i hi
      generalize eG : lm_cG V (lm_vu C (m 29) (m 37) s) (lm_hb s) = G
      obtain ⟨m9, n9, c9, s9, f9⟩ := lm_cS (xs := xs) (d := d + 3) (x := x) (m := m8) (n := n5) (k := 12) (G := G) hC (N8.rt hr) (by decide) (by decide)
      obtain ⟨ma, na, ca, sa, fa⟩ := lm_cA (xs := xs) (d := d + 2) (x := x) (k := 12) (q := 191) (v := 64) (a := 0) (l := 64) (L := 0) (G := G) hC (by decide) (by decide) (by decide) rfl (by decide) (by decide) (fun t ht => by
        rw [f9.1 191 (by decide), Nat.zero_add, e191 t ht, ← eG, lm_cG, if_pos ht]) s9
      rw [Nat.zero_add] at sa
      have f9a := f9.tr fa
      have Da : lm_DC ma s := by unfold lm_DC; rw [f9a.1 76 (by decide)]; exact D8
      obtain ⟨mb, nb, ⟨fb, gb, sb⟩, kb⟩ := lm_l175c (xs := xs) (C := C) (d := d) (x := x) (m := ma) (n := na) (s := s) (W := lm_vu C (m 29) (m 37) s) (G := G) hC hs Da (fun i hi c hc => ⟨by rw [f9a.1 _ (by omega)]; exact w8 i hi c hc, lm_uh_b hs ln_vw_b⟩) (fun t => by rw [← eG, lm_cG, if_neg (by omega), Nat.add_sub_cancel_left]) (by rw [Nat.mul_zero, Nat.add_zero]; exact sa)
      have e76b : mb 76 = m 76 := by rw [fb 76 (by decide) (by decide), f9a.1 76 (by decide), fr8 76 (by decide) (by decide)]
      generalize eMc : lm_u mb 38 1 (Int32.ofNat (lm_dsz s)) = Mc
      have rc : ∀ r, r ≠ 38 → Mc r = mb r := fun r hr => by rw [← eMc, lm_u_row hr]
      have sc' : lm_CS Mc nb 12 (lm_MS C 12 G (64 + 32 * lm_hb s * lm_dk s)) := lm_CS_m (by decide) (by decide) sb (fun r r1 r2 => by rw [rc r (by omega)]) (fun _ _ _ => rfl)
      obtain ⟨md, nd, cd, fd⟩ := lm_cF (xs := xs) (d := d + 2) (x := x) (m := Mc) (n := nb) (k := 12) (q := 39) (v := 65536) (a := 0) (l := lm_dsz s) hC (by decide) (by decide) (by decide) rfl (by omega) (by decide) (fun h => absurd h (by decide)) sc'
      generalize eMe : lm_fil md 39 0 (0 + lm_dsz s) (fun i => lm_Hm C 12 G (64 + 32 * lm_hb s * lm_dk s) (i - 0)) = Me at cd
      have re : ∀ r, r ≠ 39 → Me r = md r := fun r hr => by rw [← eMe, lm_fl_row hr]
      have eC : lm_vC C (m 29) (m 37) V s = lm_Hm C 12 G (64 + 32 * lm_hb s * lm_dk s) := by unfold lm_vC; rw [eG]
      have ve : ∀ t, t < lm_dsz s → Me 39 t = lm_vC C (m 29) (m 37) V s t := fun t ht => by rw [← eMe, lm_fl_in (by omega), Nat.sub_zero, eC]
      have fre : ∀ r, (r < 5 ∨ 22 < r) → r ≠ 38 → r ≠ 39 → r ≠ 188 → Me r = m8 r := fun r q1 q2 q3 q4 => by rw [re r q3, fd.1 r q1, rc r q2, fb r q1 q4, f9a.1 r q1]
      have s38 : Me 38 1 = Int32.ofNat (lm_dsz s) := by rw [re 38 (by decide), fd.1 38 (by decide), ← eMc, lm_u_eq]
      have e37e : Me 37 = m 37 := by rw [fre 37 (by decide) (by decide) (by decide) (by decide), fr8 37 (by decide) (by decide)]
      have u136 := lm_u136 (sc := lm_sc xs) (d := d + 5) (m := Me) (n := nd) (x := x) (a := 0) (l := lm_dsz s) (p := 39) (q := 37) (s := 65536) (r := 65536) (b := 0) rfl rfl (by omega) (by omega)
      have eEv : lm_ev (fun t => lm_b8 (Me 39 (0 + t))) (fun t => lm_b8 (Me 37 (0 + t))) (lm_dsz s) 0 = lm_ev (fun t => lm_b8 (lm_vC C (m 29) (m 37) V s t)) (fun t => lm_b8 (m 37 t)) (lm_dsz s) 0 := by
        rw [Bool.eq_iff_iff, lm_ev_t, lm_ev_t]
        constructor
        · intro q t t1
          have := q t t1
          rw [Nat.zero_add, Nat.zero_add, ve t t1, e37e] at this
          rw [Nat.zero_add]
          exact this
        · intro q t t1
          have := q t t1
          rw [Nat.zero_add] at this
          rw [Nat.zero_add, Nat.zero_add, ve t t1, e37e]
          exact this
      rw [eEv] at u136
      refine ⟨Me, nd, ?_, fun r q1 q2 q3 q4 => by rw [fre r q1 q2 q3 (by omega), fr8 r q1 q4], N8.tr (f9a.N.tr (gb.tr ((lm_fN.of (rc 11 (by decide)) (rc 17 (by decide))).tr (fd.N.tr (.of (re 11 (by decide)) (re 17 (by decide))))))), s38, ve⟩
      clear w7 w8 ve v5 v5' v4 v2 hA1 hZ s9 sa sb sc' u6 hB3 hP eEv eC eB e191 ho
      generalize lm_ev (fun t => lm_b8 (lm_vC C (m 29) (m 37) V s t)) (fun t => lm_b8 (m 37 t)) (lm_dsz s) 0 = b at *
      refine lm_cal_of (Y := lm_m175) rfl rfl (lm_e175_0 ?_)
      unfold lm_q175_0
      rw [lm_K0]
      repeat (first
    | ((with_reducible apply lm_sI); exact rfl)
    | ((with_reducible apply lm_sR); exact rfl)
    | ((with_reducible apply lm_sS); exact rfl; exact rfl)
    | ((with_reducible apply lm_sL); exact rfl)
    | ((with_reducible apply lm_sP); exact rfl; exact rfl)
    | ((with_reducible apply lm_sPL); exact rfl; exact rfl)
    | ((with_reducible apply lm_sAA); exact rfl; exact rfl)
    | ((with_reducible apply lm_sA); (first | exact rfl | assumption); omega)
    | ((with_reducible apply lm_sJ); (first | exact rfl | assumption); omega)
    | ((with_reducible apply lm_sB); (first | exact rfl | assumption); omega)
    | ((with_reducible apply lm_wA); (first | exact rfl | assumption); omega)
    | ((with_reducible apply lm_wJ); (first | exact rfl | assumption); omega)
    | ((with_reducible apply lm_wB); (first | exact rfl | assumption); omega)
    | ((with_reducible apply lm_sAl); (first | exact rfl | assumption); omega)
    | ((with_reducible apply lm_iW); decide))
      refine lm_cV c1 ?_
      repeat (first
    | ((with_reducible apply lm_sI); exact rfl)
    | ((with_reducible apply lm_sR); exact rfl)
    | ((with_reducible apply lm_sS); exact rfl; exact rfl)
    | ((with_reducible apply lm_sL); exact rfl)
    | ((with_reducible apply lm_sP); exact rfl; exact rfl)
    | ((with_reducible apply lm_sPL); exact rfl; exact rfl)
    | ((with_reducible apply lm_sAA); exact rfl; exact rfl)
    | ((with_reducible apply lm_sA); (first | exact rfl | assumption); omega)
    | ((with_reducible apply lm_sJ); (first | exact rfl | assumption); omega)
    | ((with_reducible apply lm_sB); (first | exact rfl | assumption); omega)
    | ((with_reducible apply lm_wA); (first | exact rfl | assumption); omega)
    | ((with_reducible apply lm_wJ); (first | exact rfl | assumption); omega)
    | ((with_reducible apply lm_wB); (first | exact rfl | assumption); omega)
    | ((with_reducible apply lm_sAl); (first | exact rfl | assumption); omega)
    | ((with_reducible apply lm_iW); decide))
      refine lm_cV c2 ?_
      repeat (first
    | ((with_reducible apply lm_sI); exact rfl)
    | ((with_reducible apply lm_sR); exact rfl)
    | ((with_reducible apply lm_sS); exact rfl; exact rfl)
    | ((with_reducible apply lm_sL); exact rfl)
    | ((with_reducible apply lm_sP); exact rfl; exact rfl)
    | ((with_reducible apply lm_sPL); exact rfl; exact rfl)
    | ((with_reducible apply lm_sAA); exact rfl; exact rfl)
    | ((with_reducible apply lm_sA); (first | exact rfl | assumption); omega)
    | ((with_reducible apply lm_sJ); (first | exact rfl | assumption); omega)
    | ((with_reducible apply lm_sB); (first | exact rfl | assumption); omega)
    | ((with_reducible apply lm_wA); (first | exact rfl | assumption); omega)
    | ((with_reducible apply lm_wJ); (first | exact rfl | assumption); omega)
    | ((with_reducible apply lm_wB); (first | exact rfl | assumption); omega)
    | ((with_reducible apply lm_sAl); (first | exact rfl | assumption); omega)
    | ((with_reducible apply lm_iW); decide))
      refine lm_cV c3 ?_
      repeat (first
    | ((with_reducible apply lm_sI); exact rfl)
    | ((with_reducible apply lm_sR); exact rfl)
    | ((with_reducible apply lm_sS); exact rfl; exact rfl)
    | ((with_reducible apply lm_sL); exact rfl)
    | ((with_reducible apply lm_sP); exact rfl; exact rfl)
    | ((with_reducible apply lm_sPL); exact rfl; exact rfl)
    | ((with_reducible apply lm_sAA); exact rfl; exact rfl)
    | ((with_reducible apply lm_sA); (first | exact rfl | assumption); omega)
    | ((with_reducible apply lm_sJ); (first | exact rfl | assumption); omega)
    | ((with_reducible apply lm_sB); (first | exact rfl | assumption); omega)
    | ((with_reducible apply lm_wA); (first | exact rfl | assumption); omega)
    | ((with_reducible apply lm_wJ); (first | exact rfl | assumption); omega)
    | ((with_reducible apply lm_wB); (first | exact rfl | assumption); omega)
    | ((with_reducible apply lm_sAl); (first | exact rfl | assumption); omega)
    | ((with_reducible apply lm_iW); decide))
      refine lm_cI (lm_u173' (d := d + 5) (sc := lm_sc xs) D3.2.1) ?_
      repeat (first
    | ((with_reducible apply lm_sI); exact rfl)
    | ((with_reducible apply lm_sR); exact rfl)
    | ((with_reducible apply lm_sS); exact rfl; exact rfl)
    | ((with_reducible apply lm_sL); exact rfl)
    | ((with_reducible apply lm_sP); exact rfl; exact rfl)
    | ((with_reducible apply lm_sPL); exact rfl; exact rfl)
    | ((with_reducible apply lm_sAA); exact rfl; exact rfl)
    | ((with_reducible apply lm_sA); (first | exact rfl | assumption); omega)
    | ((with_reducible apply lm_sJ); (first | exact rfl | assumption); omega)
    | ((with_reducible apply lm_sB); (first | exact rfl | assumption); omega)
    | ((with_reducible apply lm_wA); (first | exact rfl | assumption); omega)
    | ((with_reducible apply lm_wJ); (first | exact rfl | assumption); omega)
    | ((with_reducible apply lm_wB); (first | exact rfl | assumption); omega)
    | ((with_reducible apply lm_sAl); (first | exact rfl | assumption); omega)
    | ((with_reducible apply lm_iW); decide))
      refine lm_cV c4 ?_
      repeat (first
    | ((with_reducible apply lm_sI); exact rfl)
    | ((with_reducible apply lm_sR); exact rfl)
    | ((with_reducible apply lm_sS); exact rfl; exact rfl)
    | ((with_reducible apply lm_sL); exact rfl)
    | ((with_reducible apply lm_sP); exact rfl; exact rfl)
    | ((with_reducible apply lm_sPL); exact rfl; exact rfl)
    | ((with_reducible apply lm_sAA); exact rfl; exact rfl)
    | ((with_reducible apply lm_sA); (first | exact rfl | assumption); omega)
    | ((with_reducible apply lm_sJ); (first | exact rfl | assumption); omega)
    | ((with_reducible apply lm_sB); (first | exact rfl | assumption); omega)
    | ((with_reducible apply lm_wA); (first | exact rfl | assumption); omega)
    | ((with_reducible apply lm_wJ); (first | exact rfl | assumption); omega)
    | ((with_reducible apply lm_wB); (first | exact rfl | assumption); omega)
    | ((with_reducible apply lm_sAl); (first | exact rfl | assumption); omega)
    | ((with_reducible apply lm_iW); decide))
      refine lm_cV c5 ?_
      refine k6 _ (lm_e175_47 ?_)
      unfold lm_q175_47
      repeat (first
    | ((with_reducible apply lm_sI); exact rfl)
    | ((with_reducible apply lm_sR); exact rfl)
    | ((with_reducible apply lm_sS); exact rfl; exact rfl)
    | ((with_reducible apply lm_sL); exact rfl)
    | ((with_reducible apply lm_sP); exact rfl; exact rfl)
    | ((with_reducible apply lm_sPL); exact rfl; exact rfl)
    | ((with_reducible apply lm_sAA); exact rfl; exact rfl)
    | ((with_reducible apply lm_sA); (first | exact rfl | assumption); omega)
    | ((with_reducible apply lm_sJ); (first | exact rfl | assumption); omega)
    | ((with_reducible apply lm_sB); (first | exact rfl | assumption); omega)
    | ((with_reducible apply lm_wA); (first | exact rfl | assumption); omega)
    | ((with_reducible apply lm_wJ); (first | exact rfl | assumption); omega)
    | ((with_reducible apply lm_wB); (first | exact rfl | assumption); omega)
    | ((with_reducible apply lm_sAl); (first | exact rfl | assumption); omega)
    | ((with_reducible apply lm_iW); decide))
      simp only [Nat.reduceDiv, Nat.reduceMod]
      rw [D6.2.2]
      refine lm_geT (by omega) (by omega) (by omega) ?_
      rw [lm_K0]
      refine k7 _ (lm_e175_76 ?_)
      unfold lm_q175_76
      repeat (first
    | ((with_reducible apply lm_sI); exact rfl)
    | ((with_reducible apply lm_sR); exact rfl)
    | ((with_reducible apply lm_sS); exact rfl; exact rfl)
    | ((with_reducible apply lm_sL); exact rfl)
    | ((with_reducible apply lm_sP); exact rfl; exact rfl)
    | ((with_reducible apply lm_sPL); exact rfl; exact rfl)
    | ((with_reducible apply lm_sAA); exact rfl; exact rfl)
    | ((with_reducible apply lm_sA); (first | exact rfl | assumption); omega)
    | ((with_reducible apply lm_sJ); (first | exact rfl | assumption); omega)
    | ((with_reducible apply lm_sB); (first | exact rfl | assumption); omega)
    | ((with_reducible apply lm_wA); (first | exact rfl | assumption); omega)
    | ((with_reducible apply lm_wJ); (first | exact rfl | assumption); omega)
    | ((with_reducible apply lm_wB); (first | exact rfl | assumption); omega)
    | ((with_reducible apply lm_sAl); (first | exact rfl | assumption); omega)
    | ((with_reducible apply lm_iW); decide))
      simp only [Nat.reduceDiv, Nat.reduceMod]
      rw [D7.2.1]
      refine lm_geT (by omega) (by omega) (by omega) ?_
      rw [lm_K12, lm_K0, lm_K64]
      repeat (first
    | ((with_reducible apply lm_sI); exact rfl)
    | ((with_reducible apply lm_sR); exact rfl)
    | ((with_reducible apply lm_sS); exact rfl; exact rfl)
    | ((with_reducible apply lm_sL); exact rfl)
    | ((with_reducible apply lm_sP); exact rfl; exact rfl)
    | ((with_reducible apply lm_sPL); exact rfl; exact rfl)
    | ((with_reducible apply lm_sAA); exact rfl; exact rfl)
    | ((with_reducible apply lm_sA); (first | exact rfl | assumption); omega)
    | ((with_reducible apply lm_sJ); (first | exact rfl | assumption); omega)
    | ((with_reducible apply lm_sB); (first | exact rfl | assumption); omega)
    | ((with_reducible apply lm_wA); (first | exact rfl | assumption); omega)
    | ((with_reducible apply lm_wJ); (first | exact rfl | assumption); omega)
    | ((with_reducible apply lm_wB); (first | exact rfl | assumption); omega)
    | ((with_reducible apply lm_sAl); (first | exact rfl | assumption); omega)
    | ((with_reducible apply lm_iW); decide))
      refine lm_cV c8 ?_
      repeat (first
    | ((with_reducible apply lm_sI); exact rfl)
    | ((with_reducible apply lm_sR); exact rfl)
    | ((with_reducible apply lm_sS); exact rfl; exact rfl)
    | ((with_reducible apply lm_sL); exact rfl)
    | ((with_reducible apply lm_sP); exact rfl; exact rfl)
    | ((with_reducible apply lm_sPL); exact rfl; exact rfl)
    | ((with_reducible apply lm_sAA); exact rfl; exact rfl)
    | ((with_reducible apply lm_sA); (first | exact rfl | assumption); omega)
    | ((with_reducible apply lm_sJ); (first | exact rfl | assumption); omega)
    | ((with_reducible apply lm_sB); (first | exact rfl | assumption); omega)
    | ((with_reducible apply lm_wA); (first | exact rfl | assumption); omega)
    | ((with_reducible apply lm_wJ); (first | exact rfl | assumption); omega)
    | ((with_reducible apply lm_wB); (first | exact rfl | assumption); omega)
    | ((with_reducible apply lm_sAl); (first | exact rfl | assumption); omega)
    | ((with_reducible apply lm_iW); decide))
      refine lm_cR c9 ?_
      repeat (first
    | ((with_reducible apply lm_sI); exact rfl)
    | ((with_reducible apply lm_sR); exact rfl)
    | ((with_reducible apply lm_sS); exact rfl; exact rfl)
    | ((with_reducible apply lm_sL); exact rfl)
    | ((with_reducible apply lm_sP); exact rfl; exact rfl)
    | ((with_reducible apply lm_sPL); exact rfl; exact rfl)
    | ((with_reducible apply lm_sAA); exact rfl; exact rfl)
    | ((with_reducible apply lm_sA); (first | exact rfl | assumption); omega)
    | ((with_reducible apply lm_sJ); (first | exact rfl | assumption); omega)
    | ((with_reducible apply lm_sB); (first | exact rfl | assumption); omega)
    | ((with_reducible apply lm_wA); (first | exact rfl | assumption); omega)
    | ((with_reducible apply lm_wJ); (first | exact rfl | assumption); omega)
    | ((with_reducible apply lm_wB); (first | exact rfl | assumption); omega)
    | ((with_reducible apply lm_sAl); (first | exact rfl | assumption); omega)
    | ((with_reducible apply lm_iW); decide))
      refine lm_cV ca ?_
      refine kb _ (lm_e175_129 ?_)
      unfold lm_q175_129
      repeat (first
    | ((with_reducible apply lm_sI); exact rfl)
    | ((with_reducible apply lm_sR); exact rfl)
    | ((with_reducible apply lm_sS); exact rfl; exact rfl)
    | ((with_reducible apply lm_sL); exact rfl)
    | ((with_reducible apply lm_sP); exact rfl; exact rfl)
    | ((with_reducible apply lm_sPL); exact rfl; exact rfl)
    | ((with_reducible apply lm_sAA); exact rfl; exact rfl)
    | ((with_reducible apply lm_sA); (first | exact rfl | assumption); omega)
    | ((with_reducible apply lm_sJ); (first | exact rfl | assumption); omega)
    | ((with_reducible apply lm_sB); (first | exact rfl | assumption); omega)
    | ((with_reducible apply lm_wA); (first | exact rfl | assumption); omega)
    | ((with_reducible apply lm_wJ); (first | exact rfl | assumption); omega)
    | ((with_reducible apply lm_wB); (first | exact rfl | assumption); omega)
    | ((with_reducible apply lm_sAl); (first | exact rfl | assumption); omega)
    | ((with_reducible apply lm_iW); decide))
      simp only [Nat.reduceDiv, Nat.reduceMod]
      rw [e76b, h.2.1]
      refine lm_geT (by omega) (by omega) (by omega) ?_
      rw [lm_K0]
      repeat (first
    | ((with_reducible apply lm_sI); exact rfl)
    | ((with_reducible apply lm_sR); exact rfl)
    | ((with_reducible apply lm_sS); exact rfl; exact rfl)
    | ((with_reducible apply lm_sL); exact rfl)
    | ((with_reducible apply lm_sP); exact rfl; exact rfl)
    | ((with_reducible apply lm_sPL); exact rfl; exact rfl)
    | ((with_reducible apply lm_sAA); exact rfl; exact rfl)
    | ((with_reducible apply lm_sA); (first | exact rfl | assumption); omega)
    | ((with_reducible apply lm_sJ); (first | exact rfl | assumption); omega)
    | ((with_reducible apply lm_sB); (first | exact rfl | assumption); omega)
    | ((with_reducible apply lm_wA); (first | exact rfl | assumption); omega)
    | ((with_reducible apply lm_wJ); (first | exact rfl | assumption); omega)
    | ((with_reducible apply lm_wB); (first | exact rfl | assumption); omega)
    | ((with_reducible apply lm_sAl); (first | exact rfl | assumption); omega)
    | ((with_reducible apply lm_iW); decide))
      simp only [Nat.reduceDiv, Nat.reduceMod]
      rw [e76b, h.1]
      refine ln_tb13 hs ?_
      repeat (first
    | ((with_reducible apply lm_sI); exact rfl)
    | ((with_reducible apply lm_sR); exact rfl)
    | ((with_reducible apply lm_sS); exact rfl; exact rfl)
    | ((with_reducible apply lm_sL); exact rfl)
    | ((with_reducible apply lm_sP); exact rfl; exact rfl)
    | ((with_reducible apply lm_sPL); exact rfl; exact rfl)
    | ((with_reducible apply lm_sAA); exact rfl; exact rfl)
    | ((with_reducible apply lm_sA); (first | exact rfl | assumption); omega)
    | ((with_reducible apply lm_sJ); (first | exact rfl | assumption); omega)
    | ((with_reducible apply lm_sB); (first | exact rfl | assumption); omega)
    | ((with_reducible apply lm_wA); (first | exact rfl | assumption); omega)
    | ((with_reducible apply lm_wJ); (first | exact rfl | assumption); omega)
    | ((with_reducible apply lm_wB); (first | exact rfl | assumption); omega)
    | ((with_reducible apply lm_sAl); (first | exact rfl | assumption); omega)
    | ((with_reducible apply lm_iW); decide))
      rw [eMc]
      simp only [Nat.reduceDiv, Nat.reduceMod]
      rw [show Mc 38 1 = Int32.ofNat (lm_dsz s) by rw [← eMc, lm_u_eq]]
      refine lm_cV cd ?_
      repeat (first
    | ((with_reducible apply lm_sI); exact rfl)
    | ((with_reducible apply lm_sR); exact rfl)
    | ((with_reducible apply lm_sS); exact rfl; exact rfl)
    | ((with_reducible apply lm_sL); exact rfl)
    | ((with_reducible apply lm_sP); exact rfl; exact rfl)
    | ((with_reducible apply lm_sPL); exact rfl; exact rfl)
    | ((with_reducible apply lm_sAA); exact rfl; exact rfl)
    | ((with_reducible apply lm_sA); (first | exact rfl | assumption); omega)
    | ((with_reducible apply lm_sJ); (first | exact rfl | assumption); omega)
    | ((with_reducible apply lm_sB); (first | exact rfl | assumption); omega)
    | ((with_reducible apply lm_wA); (first | exact rfl | assumption); omega)
    | ((with_reducible apply lm_wJ); (first | exact rfl | assumption); omega)
    | ((with_reducible apply lm_wB); (first | exact rfl | assumption); omega)
    | ((with_reducible apply lm_sAl); (first | exact rfl | assumption); omega)
    | ((with_reducible apply lm_iW); decide))
      simp only [Nat.reduceDiv, Nat.reduceMod]
      rw [s38]
      refine lm_cI u136 ?_
      cases b
      · rfl
      · rfl
    · rw [if_neg cb] at c2
      refine Or.inr ⟨fun q => cb q.2, m2, n2, ?_, fun r q1 q2 => by rw [f2 r q1 (by omega) (by omega), f1 r q1 (by omega) (by omega) (by omega)], N2⟩
      clear v2 hA1 hZ hP ho
      refine lm_cal_of (Y := lm_m175) rfl rfl (lm_e175_0 ?_)
      unfold lm_q175_0
      rw [lm_K0]
      repeat (first
    | ((with_reducible apply lm_sI); exact rfl)
    | ((with_reducible apply lm_sR); exact rfl)
    | ((with_reducible apply lm_sS); exact rfl; exact rfl)
    | ((with_reducible apply lm_sL); exact rfl)
    | ((with_reducible apply lm_sP); exact rfl; exact rfl)
    | ((with_reducible apply lm_sPL); exact rfl; exact rfl)
    | ((with_reducible apply lm_sAA); exact rfl; exact rfl)
    | ((with_reducible apply lm_sA); (first | exact rfl | assumption); omega)
    | ((with_reducible apply lm_sJ); (first | exact rfl | assumption); omega)
    | ((with_reducible apply lm_sB); (first | exact rfl | assumption); omega)
    | ((with_reducible apply lm_wA); (first | exact rfl | assumption); omega)
    | ((with_reducible apply lm_wJ); (first | exact rfl | assumption); omega)
    | ((with_reducible apply lm_wB); (first | exact rfl | assumption); omega)
    | ((with_reducible apply lm_sAl); (first | exact rfl | assumption); omega)
    | ((with_reducible apply lm_iW); decide))
      refine lm_cV c1 ?_
      repeat (first
    | ((with_reducible apply lm_sI); exact rfl)
    | ((with_reducible apply lm_sR); exact rfl)
    | ((with_reducible apply lm_sS); exact rfl; exact rfl)
    | ((with_reducible apply lm_sL); exact rfl)
    | ((with_reducible apply lm_sP); exact rfl; exact rfl)
    | ((with_reducible apply lm_sPL); exact rfl; exact rfl)
    | ((with_reducible apply lm_sAA); exact rfl; exact rfl)
    | ((with_reducible apply lm_sA); (first | exact rfl | assumption); omega)
    | ((with_reducible apply lm_sJ); (first | exact rfl | assumption); omega)
    | ((with_reducible apply lm_sB); (first | exact rfl | assumption); omega)
    | ((with_reducible apply lm_wA); (first | exact rfl | assumption); omega)
    | ((with_reducible apply lm_wJ); (first | exact rfl | assumption); omega)
    | ((with_reducible apply lm_wB); (first | exact rfl | assumption); omega)
    | ((with_reducible apply lm_sAl); (first | exact rfl | assumption); omega)
    | ((with_reducible apply lm_iW); decide))
      exact lm_cVe c2
  · rw [eR] at c1
    refine Or.inr ⟨fun q => v1 (q.1 i t hi ht), m1, n1, ?_, fun r q1 q2 => by rw [f1 r q1 (by omega) (by omega) (by omega)], g1⟩
    clear v1 hZ hP ho
    refine lm_cal_of (Y := lm_m175) rfl rfl (lm_e175_0 ?_)
    unfold lm_q175_0
    rw [lm_K0]
    repeat (first
    | ((with_reducible apply lm_sI); exact rfl)
    | ((with_reducible apply lm_sR); exact rfl)
    | ((with_reducible apply lm_sS); exact rfl; exact rfl)
    | ((with_reducible apply lm_sL); exact rfl)
    | ((with_reducible apply lm_sP); exact rfl; exact rfl)
    | ((with_reducible apply lm_sPL); exact rfl; exact rfl)
    | ((with_reducible apply lm_sAA); exact rfl; exact rfl)
    | ((with_reducible apply lm_sA); (first | exact rfl | assumption); omega)
    | ((with_reducible apply lm_sJ); (first | exact rfl | assumption); omega)
    | ((with_reducible apply lm_sB); (first | exact rfl | assumption); omega)
    | ((with_reducible apply lm_wA); (first | exact rfl | assumption); omega)
    | ((with_reducible apply lm_wJ); (first | exact rfl | assumption); omega)
    | ((with_reducible apply lm_wB); (first | exact rfl | assumption); omega)
    | ((with_reducible apply lm_sAl); (first | exact rfl | assumption); omega)
    | ((with_reducible apply lm_iW); decide))
    exact lm_cVe c1
end LMVF
