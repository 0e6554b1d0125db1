/-! ===== dsaSign of the class: an attempt ===== -/
section LMDZ
variable {xs : List Int32} {C : lm_CX} {d s j : Nat} {m : lm_MI} {n : lm_ML} {x : lm_H × Nat × Nat} {K : Nat → Int32}
theorem lm_aR_b {U V : Nat → Int32} {i c : Nat} : 0 ≤ lm_aR C K U V s j i c ∧ lm_aR C K U V s j i c < 8380417 := by
  unfold lm_aR
  exact ⟨Int.emod_nonneg _ (by decide), Int.emod_lt_of_pos _ (by decide)⟩
theorem lm_aB_b {U V : Nat → Int32} (hs : s ≤ 2) (c : Nat) : -1 ≤ (lm_aB C K U V s j).2 c ∧ (lm_aB C K U V s j).2 c ≤ 1 := by
  have hpar := lm_dpar s hs
  unfold lm_aB lm_ba
  exact (lm_bl_b (by omega) 121).2 c
/-- up to the ball -/
theorem lm_l245d (hC : lm_Cok xs C) (hr : ln_rt m) (hx : lm_rom x) (hs : s ≤ 2) (h : lm_DC m s) (hz : ∀ k, k < 256 → m 77 k = Int32.ofInt (lm_zd k)) (hj : j + 7 ≤ 60000) (hA : ∀ i t, i < lm_dk s → t < lm_dl s → ∀ c, c < 256 → m (79 + (i * lm_dl s + t)) c = Int32.ofInt (lm_xAm C K i t c) ∧ 0 ≤ lm_xAm C K i t c ∧ lm_xAm C K i t c ≤ 8380416) : ∃ m' n', lm_fA m m' ∧ lm_fN m n m' n' ∧ (∀ t, t < lm_dl s → ∀ c, c < 256 → m' (161 + t) c = Int32.ofInt (lm_aY C (m 189) s j t c)) ∧ (∀ i, i < lm_dk s → ∀ c, c < 256 → m' (177 + i) c = Int32.ofInt (ln_aW C K (m 189) s j i c)) ∧ (∀ t, t < lm_dsz s → m' 192 t = lm_aC C K (m 189) (m 191) s j t) ∧ (if (lm_aB C K (m 189) (m 191) s j).1 = 256 then lm_pts m' 185 (lm_aB C K (m 189) (m 191) s j).2 ∧ ∀ R, (lm_bind (lm_sel [(9, 298)] (some (.ref 76))) fun y10 => lm_bind (lm_asI (lm_cal (lm_sc xs) (d + 5) y10 [.ref 76])) fun v11 => lm_if .eq v11 0 (lm_when ((Int32.ofInt 0) = 0 ∨ (Int32.ofInt 0) = 1) inferInstance (lm_ret (some (.int (Int32.ofInt 0))))) (lm_bind (lm_sel [(9, 299)] (some (.ref 76))) fun y12 => lm_bind (lm_asI (lm_cal (lm_sc xs) (d + 5) y12 [.ref 76])) fun v13 => lm_if .eq v13 0 (lm_when ((Int32.ofInt 0) = 0 ∨ (Int32.ofInt 0) = 1) inferInstance (lm_ret (some (.int (Int32.ofInt 0))))) (lm_bind (lm_sel [(9, 300)] (some (.ref 76))) fun y14 => lm_bind (lm_asI (lm_cal (lm_sc xs) (d + 5) y14 [.ref 76])) fun v15 => lm_if .eq v15 0 (lm_when ((Int32.ofInt 0) = 0 ∨ (Int32.ofInt 0) = 1) inferInstance (lm_ret (some (.int (Int32.ofInt 0))))) (lm_when ((Int32.ofInt 1) = 0 ∨ (Int32.ofInt 1) = 1) inferInstance (lm_ret (some (.int (Int32.ofInt 1)))))))) (lm_w m' n' x) = some R → lm_cal (lm_sc xs) (d + 6) 245 [.ref 76, .int (Int32.ofNat j)] (lm_w m n x) = some R else lm_cal (lm_sc xs) (d + 6) 245 [.ref 76, .int (Int32.ofNat j)] (lm_w m n x) = some (.error (lm_xp x), lm_w m' n' (lm_xx 15 x))) := by
  have hkl := lm_dkl hs
  have hpar := lm_dpar s hs
  obtain ⟨m1, n1, ⟨a1, a2, a3⟩, k1⟩ := lm_l245a (xs := xs) (C := C) (d := d) (x := x) (m := m) (n := n) (j := j) hC hr hs h hz hj
  have e76 : m1 76 = m 76 := a1 76 (by decide) (by decide) (by decide) (by decide)
  have D1 : lm_DC m1 s := by unfold lm_DC; rw [e76]; exact h
  obtain ⟨m2, b1, b2, k2⟩ := lm_l245b (xs := xs) (d := d) (x := x) (m := m1) (n := n1) (s := s) (Am := lm_xAm C K) (Y := lm_aY C (m 189) s j) hs D1 (fun k hk => by rw [a1 77 (by decide) (by decide) (by decide) (by decide)]; exact hz k hk) (fun i t hi ht c hc => by
    have hil : i * lm_dl s + lm_dl s ≤ 8 * 7 := by
      rw [← Nat.succ_mul]
      exact Nat.mul_le_mul (by omega) hkl.2.1
    rw [a1 _ (by omega) (by omega) (by omega) (by omega)]
    exact hA i t hi ht c hc) (fun t ht => (a3 t ht).2)
  have e76' : m2 76 = m 76 := by rw [b1 76 (by omega), e76]
  have D2 : lm_DC m2 s := by unfold lm_DC; rw [e76']; exact h
  have hr2 : ln_rt m2 := ⟨by rw [b1 11 (by omega)]; exact (a2.rt hr).1, by rw [b1 17 (by omega)]; exact (a2.rt hr).2⟩
  have e191 : m2 191 = m 191 := by rw [b1 191 (by omega), a1 191 (by decide) (by decide) (by decide) (by decide)]
  generalize eG : lm_cG (m 191) (fun i c => lm_hi (lm_dg2 s) (ln_aW C K (m 189) s j i c)) (lm_hb s) = G
  obtain ⟨m3, n3, c3, s3, f3⟩ := lm_cS (xs := xs) (d := d + 2) (x := x) (m := m2) (n := n1) (k := 12) (G := G) hC hr2 (by decide) (by decide)
  obtain ⟨m4, n4, c4, s4, f4⟩ := lm_cA (xs := xs) (d := d + 1) (x := x) (k := 12) (q := 191) (v := 64) (a := 0) (l := 64) (L := 0) (G := G) hC (by decide) (by decide) (by decide) rfl (by decide) (by decide) (fun t ht => by
    rw [f3.1 191 (by decide), e191, Nat.zero_add, ← eG, lm_cG, if_pos ht]) s3
  rw [Nat.zero_add] at s4
  have f34 := f3.tr f4
  have hW4 : ∀ i, i < lm_dk s → ∀ c, c < 256 → m4 (177 + i) c = Int32.ofInt (ln_aW C K (m 189) s j i c) := fun i hi c hc => by
    rw [f34.1 _ (by omega)]
    exact b2 i hi c hc
  have D4 : lm_DC m4 s := by unfold lm_DC; rw [f34.1 76 (by decide), e76']; exact h
  obtain ⟨m5, n5, ⟨g1, g2, g3⟩, k5⟩ := lm_l245c (xs := xs) (C := C) (d := d) (x := x) (m := m4) (n := n4) (s := s) (W := fun i c => ln_aW C K (m 189) s j i c) (G := G) hC hs D4 (fun i hi c hc => ⟨hW4 i hi c hc, lm_aW_b⟩) (fun t => by rw [← eG, lm_cG, if_neg (by omega), Nat.add_sub_cancel_left]) (by rw [Nat.mul_zero, Nat.add_zero]; exact s4)
  obtain ⟨m6, n6, c6, f6⟩ := lm_cF (xs := xs) (d := d + 1) (x := x) (k := 12) (q := 192) (v := 64) (a := 0) (l := lm_dsz s) hC (by decide) (by decide) (by decide) rfl (by omega) (by decide) (fun h => absurd h (by decide)) g3
  generalize eM7 : lm_fil m6 192 0 (0 + lm_dsz s) (fun i => lm_Hm C 12 G (64 + 32 * lm_hb s * lm_dk s) (i - 0)) = M7 at c6
  have r7 : ∀ r, r ≠ 192 → M7 r = m6 r := fun r hr => by rw [← eM7, lm_fl_row hr]
  have eC : lm_aC C K (m 189) (m 191) s j = lm_Hm C 12 G (64 + 32 * lm_hb s * lm_dk s) := by unfold lm_aC; rw [eG]
  have v7 : ∀ t, t < lm_dsz s → M7 192 t = lm_aC C K (m 189) (m 191) s j t := fun t ht => by rw [← eM7, lm_fl_in (by omega), Nat.sub_zero, eC]
  have fr7 : ∀ r, (r < 5 ∨ 22 < r) → r ≠ 186 → r ≠ 188 → r ≠ 192 → M7 r = m2 r := fun r q1 q2 q3 q4 => by rw [r7 r q4, f6.1 r q1, g1 r q1 q2 q3, f34.1 r q1]
  have N7 : lm_fN m n M7 n6 := a2.tr ((lm_fN.of (b1 11 (by omega)) (b1 17 (by omega))).tr (f34.N.tr (g2.tr (f6.N.tr (.of (r7 11 (by decide)) (r7 17 (by decide)))))))
  have e76'' : M7 76 = m 76 := by rw [fr7 76 (by decide) (by decide) (by decide) (by decide), e76']
  obtain ⟨m8, n8, c8, f8, g8, v8⟩ := lm_u254 (xs := xs) (C := C) (d := d) (m := M7) (n := n6) (x := x) (s := s) (q := 192) (v := 64) (G := fun t => lm_b8 (lm_aC C K (m 189) (m 191) s j t)) hC (N7.rt hr) hx hs (by rw [e76'']; exact h.1) rfl (by decide) (by decide) (by omega) (by decide) (fun t ht => by rw [v7 t ht])
  have eB : lm_aB C K (m 189) (m 191) s j = lm_ba (lm_Hm C 12 (fun t => lm_b8 (lm_aC C K (m 189) (m 191) s j t)) (lm_dsz s)) (lm_dt' s) 121 := by unfold lm_aB; rfl
  rw [← eB] at c8 v8
  have N8 := N7.tr g8
  have frA : ∀ r, (r < 5 ∨ 22 < r) → (r < 161 ∨ 193 < r ∨ r = 189 ∨ r = 191) → m8 r = m r := fun r q1 q2 => by
    rw [f8 r q1 (by omega) (by omega), fr7 r q1 (by omega) (by omega) (by omega), b1 r (by omega), a1 r q1 (by omega) (by omega) (by omega)]
  have w8 : ∀ i, i < lm_dk s → ∀ c, c < 256 → m8 (177 + i) c = Int32.ofInt (ln_aW C K (m 189) s j i c) := fun i hi c hc => by
    rw [f8 _ (by omega) (by omega) (by omega), fr7 _ (by omega) (by omega) (by omega) (by omega)]
    exact b2 i hi c hc
  have y8 : ∀ t, t < lm_dl s → ∀ c, c < 256 → m8 (161 + t) c = Int32.ofInt (lm_aY C (m 189) s j t c) := fun t ht c hc => by
    rw [f8 _ (by omega) (by omega) (by omega), fr7 _ (by omega) (by omega) (by omega) (by omega), b1 _ (by omega)]
    exact (a3 t ht).1 c hc
  have z8 : ∀ t, t < lm_dsz s → m8 192 t = lm_aC C K (m 189) (m 191) s j t := fun t ht => by
    rw [f8 192 (by decide) (by decide) (by decide)]
    exact v7 t ht
  have run : ∀ R, lm_bind (lm_asV (lm_cal (lm_sc xs) (d + 5) 254 [.ref 76, .ref 192])) (fun _ => lm_bind (lm_gR 3634 76) fun v8 => lm_bind (lm_sel [(9, 236)] (some (.ref 76))) fun y9 => lm_bind (lm_asV (lm_cal (lm_sc xs) (d + 5) y9 [.ref 76, .ref v8])) fun _ => lm_bind (lm_sel [(9, 298)] (some (.ref 76))) fun y10 => lm_bind (lm_asI (lm_cal (lm_sc xs) (d + 5) y10 [.ref 76])) fun v11 => lm_if .eq v11 0 (lm_when ((Int32.ofInt 0) = 0 ∨ (Int32.ofInt 0) = 1) inferInstance (lm_ret (some (.int (Int32.ofInt 0))))) (lm_bind (lm_sel [(9, 299)] (some (.ref 76))) fun y12 => lm_bind (lm_asI (lm_cal (lm_sc xs) (d + 5) y12 [.ref 76])) fun v13 => lm_if .eq v13 0 (lm_when ((Int32.ofInt 0) = 0 ∨ (Int32.ofInt 0) = 1) inferInstance (lm_ret (some (.int (Int32.ofInt 0))))) (lm_bind (lm_sel [(9, 300)] (some (.ref 76))) fun y14 => lm_bind (lm_asI (lm_cal (lm_sc xs) (d + 5) y14 [.ref 76])) fun v15 => lm_if .eq v15 0 (lm_when ((Int32.ofInt 0) = 0 ∨ (Int32.ofInt 0) = 1) inferInstance (lm_ret (some (.int (Int32.ofInt 0))))) (lm_when ((Int32.ofInt 1) = 0 ∨ (Int32.ofInt 1) = 1) inferInstance (lm_ret (some (.int (Int32.ofInt 1)))))))) (lm_w M7 n6 x) = some R → lm_cal (lm_sc xs) (d + 6) 245 [.ref 76, .int (Int32.ofNat j)] (lm_w m n x) = some R := by
    intro R KK
    clear w8 y8 z8 v8 v7 hW4 b2 a3 hA s3 s4 g3 c8 eC eB
    refine lm_cal_of (Y := lm_m245) rfl rfl (lm_e245_0 ?_)
    unfold lm_q245_0
    rw [lm_K0]
    refine k1 _ (lm_e245_2 ?_)
    unfold lm_q245_2
    repeat (first
    | ((with_reducible apply lm_sI); exact rfl)
    | ((with_reducible apply lm_sR); exact rfl)
    | ((with_reducible apply lm_sS); exact rfl; exact rfl)
    | ((with_reducible apply lm_sL); exact rfl)
    | ((with_reducible apply lm_sP); exact rfl; exact rfl)
    | ((with_reducible apply lm_sPL); exact rfl; exact rfl)
    | ((with_reducible apply lm_sAA); exact rfl; exact rfl)
    | ((with_reducible apply lm_sA); (first | exact rfl | assumption); omega)
    | ((with_reducible apply lm_sJ); (first | exact rfl | assumption); omega)
    | ((with_reducible apply lm_sB); (first | exact rfl | assumption); omega)
    | ((with_reducible apply lm_wA); (first | exact rfl | assumption); omega)
    | ((with_reducible apply lm_wJ); (first | exact rfl | assumption); omega)
    | ((with_reducible apply lm_wB); (first | exact rfl | assumption); omega)
    | ((with_reducible apply lm_sAl); (first | exact rfl | assumption); omega)
    | ((with_reducible apply lm_iW); decide))
    simp only [Nat.reduceDiv, Nat.reduceMod]
    rw [e76, h.2.2]
    refine lm_geT (by omega) (by omega) (by omega) ?_
    rw [lm_K0]
    refine k2 _ (lm_e245_61 ?_)
    unfold lm_q245_61
    repeat (first
    | ((with_reducible apply lm_sI); exact rfl)
    | ((with_reducible apply lm_sR); exact rfl)
    | ((with_reducible apply lm_sS); exact rfl; exact rfl)
    | ((with_reducible apply lm_sL); exact rfl)
    | ((with_reducible apply lm_sP); exact rfl; exact rfl)
    | ((with_reducible apply lm_sPL); exact rfl; exact rfl)
    | ((with_reducible apply lm_sAA); exact rfl; exact rfl)
    | ((with_reducible apply lm_sA); (first | exact rfl | assumption); omega)
    | ((with_reducible apply lm_sJ); (first | exact rfl | assumption); omega)
    | ((with_reducible apply lm_sB); (first | exact rfl | assumption); omega)
    | ((with_reducible apply lm_wA); (first | exact rfl | assumption); omega)
    | ((with_reducible apply lm_wJ); (first | exact rfl | assumption); omega)
    | ((with_reducible apply lm_wB); (first | exact rfl | assumption); omega)
    | ((with_reducible apply lm_sAl); (first | exact rfl | assumption); omega)
    | ((with_reducible apply lm_iW); decide))
    simp only [Nat.reduceDiv, Nat.reduceMod]
    rw [e76', h.2.1]
    refine lm_geT (by omega) (by omega) (by omega) ?_
    rw [lm_K12, lm_K0, lm_K64]
    repeat (first
    | ((with_reducible apply lm_sI); exact rfl)
    | ((with_reducible apply lm_sR); exact rfl)
    | ((with_reducible apply lm_sS); exact rfl; exact rfl)
    | ((with_reducible apply lm_sL); exact rfl)
    | ((with_reducible apply lm_sP); exact rfl; exact rfl)
    | ((with_reducible apply lm_sPL); exact rfl; exact rfl)
    | ((with_reducible apply lm_sAA); exact rfl; exact rfl)
    | ((with_reducible apply lm_sA); (first | exact rfl | assumption); omega)
    | ((with_reducible apply lm_sJ); (first | exact rfl | assumption); omega)
    | ((with_reducible apply lm_sB); (first | exact rfl | assumption); omega)
    | ((with_reducible apply lm_wA); (first | exact rfl | assumption); omega)
    | ((with_reducible apply lm_wJ); (first | exact rfl | assumption); omega)
    | ((with_reducible apply lm_wB); (first | exact rfl | assumption); omega)
    | ((with_reducible apply lm_sAl); (first | exact rfl | assumption); omega)
    | ((with_reducible apply lm_iW); decide))
    refine lm_cR c3 ?_
    repeat (first
    | ((with_reducible apply lm_sI); exact rfl)
    | ((with_reducible apply lm_sR); exact rfl)
    | ((with_reducible apply lm_sS); exact rfl; exact rfl)
    | ((with_reducible apply lm_sL); exact rfl)
    | ((with_reducible apply lm_sP); exact rfl; exact rfl)
    | ((with_reducible apply lm_sPL); exact rfl; exact rfl)
    | ((with_reducible apply lm_sAA); exact rfl; exact rfl)
    | ((with_reducible apply lm_sA); (first | exact rfl | assumption); omega)
    | ((with_reducible apply lm_sJ); (first | exact rfl | assumption); omega)
    | ((with_reducible apply lm_sB); (first | exact rfl | assumption); omega)
    | ((with_reducible apply lm_wA); (first | exact rfl | assumption); omega)
    | ((with_reducible apply lm_wJ); (first | exact rfl | assumption); omega)
    | ((with_reducible apply lm_wB); (first | exact rfl | assumption); omega)
    | ((with_reducible apply lm_sAl); (first | exact rfl | assumption); omega)
    | ((with_reducible apply lm_iW); decide))
    refine lm_cV c4 ?_
    refine k5 _ (lm_e245_123 ?_)
    unfold lm_q245_123
    have e5 : m5 76 = m 76 := by rw [g1 76 (by decide) (by decide) (by decide), f34.1 76 (by decide), e76']
    repeat (first
    | ((with_reducible apply lm_sI); exact rfl)
    | ((with_reducible apply lm_sR); exact rfl)
    | ((with_reducible apply lm_sS); exact rfl; exact rfl)
    | ((with_reducible apply lm_sL); exact rfl)
    | ((with_reducible apply lm_sP); exact rfl; exact rfl)
    | ((with_reducible apply lm_sPL); exact rfl; exact rfl)
    | ((with_reducible apply lm_sAA); exact rfl; exact rfl)
    | ((with_reducible apply lm_sA); (first | exact rfl | assumption); omega)
    | ((with_reducible apply lm_sJ); (first | exact rfl | assumption); omega)
    | ((with_reducible apply lm_sB); (first | exact rfl | assumption); omega)
    | ((with_reducible apply lm_wA); (first | exact rfl | assumption); omega)
    | ((with_reducible apply lm_wJ); (first | exact rfl | assumption); omega)
    | ((with_reducible apply lm_wB); (first | exact rfl | assumption); omega)
    | ((with_reducible apply lm_sAl); (first | exact rfl | assumption); omega)
    | ((with_reducible apply lm_iW); decide))
    simp only [Nat.reduceDiv, Nat.reduceMod]
    rw [e5, h.2.1]
    refine lm_geT (by omega) (by omega) (by omega) ?_
    rw [lm_K0]
    repeat (first
    | ((with_reducible apply lm_sI); exact rfl)
    | ((with_reducible apply lm_sR); exact rfl)
    | ((with_reducible apply lm_sS); exact rfl; exact rfl)
    | ((with_reducible apply lm_sL); exact rfl)
    | ((with_reducible apply lm_sP); exact rfl; exact rfl)
    | ((with_reducible apply lm_sPL); exact rfl; exact rfl)
    | ((with_reducible apply lm_sAA); exact rfl; exact rfl)
    | ((with_reducible apply lm_sA); (first | exact rfl | assumption); omega)
    | ((with_reducible apply lm_sJ); (first | exact rfl | assumption); omega)
    | ((with_reducible apply lm_sB); (first | exact rfl | assumption); omega)
    | ((with_reducible apply lm_wA); (first | exact rfl | assumption); omega)
    | ((with_reducible apply lm_wJ); (first | exact rfl | assumption); omega)
    | ((with_reducible apply lm_wB); (first | exact rfl | assumption); omega)
    | ((with_reducible apply lm_sAl); (first | exact rfl | assumption); omega)
    | ((with_reducible apply lm_iW); decide))
    simp only [Nat.reduceDiv, Nat.reduceMod]
    rw [e5, h.1]
    refine ln_tb13 hs ?_
    repeat (first
    | ((with_reducible apply lm_sI); exact rfl)
    | ((with_reducible apply lm_sR); exact rfl)
    | ((with_reducible apply lm_sS); exact rfl; exact rfl)
    | ((with_reducible apply lm_sL); exact rfl)
    | ((with_reducible apply lm_sP); exact rfl; exact rfl)
    | ((with_reducible apply lm_sPL); exact rfl; exact rfl)
    | ((with_reducible apply lm_sAA); exact rfl; exact rfl)
    | ((with_reducible apply lm_sA); (first | exact rfl | assumption); omega)
    | ((with_reducible apply lm_sJ); (first | exact rfl | assumption); omega)
    | ((with_reducible apply lm_sB); (first | exact rfl | assumption); omega)
    | ((with_reducible apply lm_wA); (first | exact rfl | assumption); omega)
    | ((with_reducible apply lm_wJ); (first | exact rfl | assumption); omega)
    | ((with_reducible apply lm_wB); (first | exact rfl | assumption); omega)
    | ((with_reducible apply lm_sAl); (first | exact rfl | assumption); omega)
    | ((with_reducible apply lm_iW); decide))
    refine lm_cV c6 ?_
    repeat (first
    | ((with_reducible apply lm_sI); exact rfl)
    | ((with_reducible apply lm_sR); exact rfl)
    | ((with_reducible apply lm_sS); exact rfl; exact rfl)
    | ((with_reducible apply lm_sL); exact rfl)
    | ((with_reducible apply lm_sP); exact rfl; exact rfl)
    | ((with_reducible apply lm_sPL); exact rfl; exact rfl)
    | ((with_reducible apply lm_sAA); exact rfl; exact rfl)
    | ((with_reducible apply lm_sA); (first | exact rfl | assumption); omega)
    | ((with_reducible apply lm_sJ); (first | exact rfl | assumption); omega)
    | ((with_reducible apply lm_sB); (first | exact rfl | assumption); omega)
    | ((with_reducible apply lm_wA); (first | exact rfl | assumption); omega)
    | ((with_reducible apply lm_wJ); (first | exact rfl | assumption); omega)
    | ((with_reducible apply lm_wB); (first | exact rfl | assumption); omega)
    | ((with_reducible apply lm_sAl); (first | exact rfl | assumption); omega)
    | ((with_reducible apply lm_iW); decide))
    exact KK
  by_cases cb : (lm_aB C K (m 189) (m 191) s j).1 = 256
  · rw [if_pos cb] at c8
    obtain ⟨m9, U, c9, p9, u9, b9⟩ := lm_u236 (sc := lm_sc xs) (d := d + 4) (m := m8) (n := n8) (x := x) (p := 185) (G := (lm_aB C K (m 189) (m 191) s j).2) (B := 1) rfl (by decide) (fun k hk => by rw [frA 77 (by decide) (by decide)]; exact hz k hk) (by decide) (fun c hc => lm_aB_b hs c) v8
    refine ⟨m9, n8, fun r q1 q2 => by rw [p9.1 r (by omega), frA r q1 q2], N8.tr (.of (p9.1 11 (by decide)) (p9.1 17 (by decide))), fun t ht c hc => by rw [p9.1 _ (by omega)]; exact y8 t ht c hc, fun i hi c hc => by rw [p9.1 _ (by omega)]; exact w8 i hi c hc, fun t ht => by rw [p9.1 192 (by decide)]; exact z8 t ht, ?_⟩
    rw [if_pos cb]
    refine ⟨fun c hc => ?_, fun R KK => run R (lm_cV c8 ?_)⟩
    · have b := b9 c hc
      rw [p9.2 c hc, lm_iT0 (by omega) (by omega)]
      exact ⟨u9 c hc, by omega, by omega⟩
    · clear w8 y8 z8 v8 v7 hW4 b2 a3 hA
      repeat (first
    | ((with_reducible apply lm_sI); exact rfl)
    | ((with_reducible apply lm_sR); exact rfl)
    | ((with_reducible apply lm_sS); exact rfl; exact rfl)
    | ((with_reducible apply lm_sL); exact rfl)
    | ((with_reducible apply lm_sP); exact rfl; exact rfl)
    | ((with_reducible apply lm_sPL); exact rfl; exact rfl)
    | ((with_reducible apply lm_sAA); exact rfl; exact rfl)
    | ((with_reducible apply lm_sA); (first | exact rfl | assumption); omega)
    | ((with_reducible apply lm_sJ); (first | exact rfl | assumption); omega)
    | ((with_reducible apply lm_sB); (first | exact rfl | assumption); omega)
    | ((with_reducible apply lm_wA); (first | exact rfl | assumption); omega)
    | ((with_reducible apply lm_wJ); (first | exact rfl | assumption); omega)
    | ((with_reducible apply lm_wB); (first | exact rfl | assumption); omega)
    | ((with_reducible apply lm_sAl); (first | exact rfl | assumption); omega)
    | ((with_reducible apply lm_iW); decide))
      refine lm_cV c9 ?_
      exact KK
  · rw [if_neg cb] at c8
    refine ⟨m8, n8, frA, N8, y8, w8, z8, ?_⟩
    rw [if_neg cb]
    exact run _ (lm_cVe c8)
end LMDZ
