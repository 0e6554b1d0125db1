/-! ===== an attempt of the reference: the packet ===== -/
section LMSC
variable {sc : lm_H} {C : lm_CX} {d s j : Nat} {m m0 : lm_MI} {n n0 : lm_ML} {x : lm_H × Nat × Nat}
/-- the hints of a row are put down -/
theorem lm_l99q {i P w : Nat} {h : Nat → Bool} (hi : i < 8) (hP : P + w ≤ 8000) (hw : w ≤ 200) (hH : ∀ c, c < 256 → lm_b1 (m (319 + i) c) = lm_z (h (256 * i + c))) (htot : (lm_hs h (256 * i + 256)).1 ≤ w) (h0 : ∀ u, u < w → lm_yb (m 328 (P + u)) = (lm_hs h (256 * i + 0)).2 u) : ∃ m', ((∀ r, r ≠ 328 → m' r = m r) ∧ (∀ u, u < P ∨ P + w ≤ u → m' 328 u = m 328 u) ∧ ∀ u, u < w → lm_yb (m' 328 (P + u)) = (lm_hs h (256 * i + 256)).2 u) ∧ ∀ R, lm_rn sc (d + 6) lm_m99.2.2.2.2.1 (lm_reg lm_m99.2.2.2.2.2) (939, [(0, .ref 203), (5, .int (Int32.ofNat P)), (6, .int (Int32.ofNat (lm_hs h (256 * i + 256)).1)), (7, .int (Int32.ofNat i)), (8, .int (Int32.ofNat 256))], []) (lm_w m' n x) = some R → lm_rn sc (d + 6) lm_m99.2.2.2.2.1 (lm_reg lm_m99.2.2.2.2.2) (939, [(0, .ref 203), (5, .int (Int32.ofNat P)), (6, .int (Int32.ofNat (lm_hs h (256 * i + 0)).1)), (7, .int (Int32.ofNat i)), (8, .int (Int32.ofNat 0))], []) (lm_w m n x) = some R := by
  have aH := lm_arH i hi
  obtain ⟨m', n', ⟨en, g1, g2, g3⟩, k1⟩ := lm_lp (sc := sc) (d := d + 6) (b := 256) (hs := lm_m99.2.2.2.2.1) (code := lm_reg lm_m99.2.2.2.2.2) (x := x) (fr := fun c => (939, [(0, .ref 203), (5, .int (Int32.ofNat P)), (6, .int (Int32.ofNat (lm_hs h (256 * i + c)).1)), (7, .int (Int32.ofNat i)), (8, .int (Int32.ofNat c))], [])) (I := fun c m' n' => n' = n ∧ (∀ r, r ≠ 328 → m' r = m r) ∧ (∀ u, u < P ∨ P + w ≤ u → m' 328 u = m 328 u) ∧ ∀ u, u < w → lm_yb (m' 328 (P + u)) = (lm_hs h (256 * i + c)).2 u) (fun c hc m1 n1 ⟨en, g1, g2, g3⟩ => by
    have hm : ∀ q, 256 * i + q ≤ 256 * i + 256 → (lm_hs h (256 * i + q)).1 ≤ w := fun q hq => by
      have := lm_hs_m (h := h) (n := 256 * i + q) (256 - q)
      rw [show 256 * i + q + (256 - q) = 256 * i + 256 by omega] at this
      omega
    have e976 : ∀ m2 w2 R, lm_rn sc (d + 6) lm_m99.2.2.2.2.1 (lm_reg lm_m99.2.2.2.2.2) (939, [(0, .ref 203), (5, .int (Int32.ofNat P)), (6, .int w2), (7, .int (Int32.ofNat i)), (8, .int (Int32.ofNat (c + 1)))], []) (lm_w m2 n1 x) = some R → lm_rn sc (d + 6) lm_m99.2.2.2.2.1 (lm_reg lm_m99.2.2.2.2.2) (976, [(0, .ref 203), (5, .int (Int32.ofNat P)), (6, .int w2), (7, .int (Int32.ofNat i)), (8, .int (Int32.ofNat c))], []) (lm_w m2 n1 x) = some R := by
      intro m2 w2 R KK
      refine lm_e99_976 ?_
      unfold lm_q99_976
      rw [lm_K1, lm_oo]
      exact KK
    have eb : lm_b1 (m1 (319 + i) c) = lm_z (h (256 * i + c)) := by rw [g1 _ (by omega)]; exact hH c hc
    have hc0 := hm c (by omega)
    have hc1 := hm (c + 1) (by omega)
    cases hb : h (256 * i + c) with
    | true =>
      have es := lm_hs_y hb
      rw [hb] at eb
      have hlt : (lm_hs h (256 * i + c)).1 + 1 ≤ w := by
        rw [← Nat.add_assoc, es] at hc1
        exact hc1
      refine ⟨lm_u m1 328 (P + (lm_hs h (256 * i + c)).1) (lm_b8 (Int32.ofNat c)), n1, ⟨en, fun r hr => (lm_u_row hr).trans (g1 r hr), fun u hu => by rw [lm_u_ne (by omega)]; exact g2 u hu, fun u hu => ?_⟩, fun R KK => lm_e99_939 ?_⟩
      · rw [← Nat.add_assoc, es]
        show _ = if u = (lm_hs h (256 * i + c)).1 then (256 * i + c) % 256 else (lm_hs h (256 * i + c)).2 u
        by_cases cu : u = (lm_hs h (256 * i + c)).1
        · rw [if_pos cu, cu, lm_u_eq, lm_yb_b8, lm_yb_n (by omega)]
          omega
        · rw [if_neg cu, lm_u_ne (by omega)]
          exact g3 u hu
      · clear g3 h0
        rw [← Nat.add_assoc, es] at KK
        unfold lm_q99_939
        rw [lm_K256]
        refine lm_geF (by omega) (by omega) (by omega) ?_
        repeat (first
    | ((with_reducible apply lm_sI); exact rfl)
    | ((with_reducible apply lm_sR); exact rfl)
    | ((with_reducible apply lm_sS); exact rfl; exact rfl)
    | ((with_reducible apply lm_sL); exact rfl)
    | ((with_reducible apply lm_sP); exact rfl; exact rfl)
    | ((with_reducible apply lm_sPL); exact rfl; exact rfl)
    | ((with_reducible apply lm_sAA); exact rfl; exact rfl)
    | ((with_reducible apply lm_sA); (first | exact rfl | assumption); omega)
    | ((with_reducible apply lm_sJ); (first | exact rfl | assumption); omega)
    | ((with_reducible apply lm_sB); (first | exact rfl | assumption); omega)
    | ((with_reducible apply lm_wA); (first | exact rfl | assumption); omega)
    | ((with_reducible apply lm_wJ); (first | exact rfl | assumption); omega)
    | ((with_reducible apply lm_wB); (first | exact rfl | assumption); omega)
    | ((with_reducible apply lm_sAl); (first | exact rfl | assumption); omega)
    | ((with_reducible apply lm_iW); decide))
        refine lm_sAA rfl (lm_roH i hi) ?_
        refine lm_sZ aH hc ?_
        rw [eb]
        refine lm_iF (show ¬ (1 : Int32) = 0 by decide) ?_
        rw [lm_oo]
        repeat (first
    | ((with_reducible apply lm_sI); exact rfl)
    | ((with_reducible apply lm_sR); exact rfl)
    | ((with_reducible apply lm_sS); exact rfl; exact rfl)
    | ((with_reducible apply lm_sL); exact rfl)
    | ((with_reducible apply lm_sP); exact rfl; exact rfl)
    | ((with_reducible apply lm_sPL); exact rfl; exact rfl)
    | ((with_reducible apply lm_sAA); exact rfl; exact rfl)
    | ((with_reducible apply lm_sA); (first | exact rfl | assumption); omega)
    | ((with_reducible apply lm_sJ); (first | exact rfl | assumption); omega)
    | ((with_reducible apply lm_sB); (first | exact rfl | assumption); omega)
    | ((with_reducible apply lm_wA); (first | exact rfl | assumption); omega)
    | ((with_reducible apply lm_wJ); (first | exact rfl | assumption); omega)
    | ((with_reducible apply lm_wB); (first | exact rfl | assumption); omega)
    | ((with_reducible apply lm_sAl); (first | exact rfl | assumption); omega)
    | ((with_reducible apply lm_iW); decide))
        rw [lm_K1, lm_oo]
        exact e976 _ _ R KK
    | false =>
      have es := lm_hs_n hb
      rw [hb] at eb
      refine ⟨m1, n1, ⟨en, g1, g2, by rw [← Nat.add_assoc, es]; exact g3⟩, fun R KK => lm_e99_939 ?_⟩
      clear g3 h0
      rw [← Nat.add_assoc, es] at KK
      unfold lm_q99_939
      rw [lm_K256]
      refine lm_geF (by omega) (by omega) (by omega) ?_
      repeat (first
    | ((with_reducible apply lm_sI); exact rfl)
    | ((with_reducible apply lm_sR); exact rfl)
    | ((with_reducible apply lm_sS); exact rfl; exact rfl)
    | ((with_reducible apply lm_sL); exact rfl)
    | ((with_reducible apply lm_sP); exact rfl; exact rfl)
    | ((with_reducible apply lm_sPL); exact rfl; exact rfl)
    | ((with_reducible apply lm_sAA); exact rfl; exact rfl)
    | ((with_reducible apply lm_sA); (first | exact rfl | assumption); omega)
    | ((with_reducible apply lm_sJ); (first | exact rfl | assumption); omega)
    | ((with_reducible apply lm_sB); (first | exact rfl | assumption); omega)
    | ((with_reducible apply lm_wA); (first | exact rfl | assumption); omega)
    | ((with_reducible apply lm_wJ); (first | exact rfl | assumption); omega)
    | ((with_reducible apply lm_wB); (first | exact rfl | assumption); omega)
    | ((with_reducible apply lm_sAl); (first | exact rfl | assumption); omega)
    | ((with_reducible apply lm_iW); decide))
      refine lm_sAA rfl (lm_roH i hi) ?_
      refine lm_sZ aH hc ?_
      rw [eb]
      refine lm_iT (show (0 : Int32) = 0 by decide) ?_
      exact e976 _ _ R KK) 256 0 (by omega) m n ⟨rfl, fun _ _ => rfl, fun _ _ => rfl, h0⟩
  subst en
  exact ⟨m', ⟨g1, g2, g3⟩, k1⟩
/-- the packet -/
theorem lm_l99p {Z : Nat → Nat → Int} {h : Nat → Bool} (hs : s ≤ 2) (h32 : m 203 32 = Int32.ofNat (lm_dk s)) (h42 : m 203 42 = Int32.ofNat (lm_dl s)) (hE : lm_RE s m) (h24 : m 203 24 = Int32.ofNat 0) (hZ : ∀ t, t < lm_dl s → ∀ c, c < 256 → m (270 + (23 + t)) c = Int32.ofInt (Z t c) ∧ -((lm_dg1 s - lm_be s : Nat) : Int) < Z t c ∧ Z t c < (lm_dg1 s - lm_be s : Nat)) (hH : ∀ i, i < lm_dk s → ∀ c, c < 256 → lm_b1 (m (319 + i) c) = lm_z (h (256 * i + c))) (htot : (lm_hs h (256 * lm_dk s)).1 ≤ lm_do s) : ∃ m', lm_rn sc (d + 6) lm_m99.2.2.2.2.1 (lm_reg lm_m99.2.2.2.2.2) (828, [(0, .ref 203), (5, .int (Int32.ofNat 0))], []) (lm_w m n x) = some (.ok (some (.int 1)), lm_w m' n x) ∧ (∀ r, r ≠ 203 → r ≠ 328 → m' r = m r) ∧ (∀ j, j ≠ 24 → m' 203 j = m 203 j) ∧ (∀ t, t < lm_dsz s → m' 328 t = m 328 t) ∧ (∀ t, t < 32 * lm_dw s * lm_dl s → lm_yb (m' 328 (lm_dsz s + t)) = lm_pkB (fun i c => (lm_dg1 s : Int) - Z i c) (lm_dw s) t) ∧ (∀ t, t < lm_do s → lm_yb (m' 328 (lm_dsz s + 32 * lm_dw s * lm_dl s + t)) = (lm_hs h (256 * lm_dk s)).2 t) ∧ ∀ i, i < lm_dk s → lm_yb (m' 328 (lm_dsz s + 32 * lm_dw s * lm_dl s + lm_do s + i)) = (lm_hs h (256 * (i + 1))).1 := by
  have hkl := lm_dkl hs
  have hpar := lm_dpar s hs
  have hp20 : 2 * lm_dg1 s ≤ 1048576 := by omega
  have e8 : ∀ t, lm_dw s * (256 * t) = 8 * (32 * lm_dw s * t) := fun t => by
    rw [show (256 : Nat) = 8 * 32 from rfl, Nat.mul_assoc 8 32 t, Nat.mul_left_comm, ← Nat.mul_assoc (lm_dw s), Nat.mul_comm (lm_dw s) 32]
  have hdl : ∀ t, t ≤ lm_dl s → 32 * lm_dw s * t ≤ 640 * 7 := fun t ht => Nat.mul_le_mul (by omega) (by omega)
  obtain ⟨m1, n1, ⟨en, g1, g2, g3, g4, g5⟩, k1⟩ := lm_lp (sc := sc) (d := d + 6) (b := lm_dl s) (hs := lm_m99.2.2.2.2.1) (code := lm_reg lm_m99.2.2.2.2.2) (x := x) (fr := fun t => (828, [(0, .ref 203), (5, .int (Int32.ofNat t))], [])) (I := fun t m' n' => n' = n ∧ (∀ r, r ≠ 203 → r ≠ 328 → m' r = m r) ∧ (∀ j, j ≠ 24 → m' 203 j = m 203 j) ∧ m' 203 24 = Int32.ofNat (lm_dw s * (256 * t)) ∧ lm_PB m' 328 (lm_dsz s) (lm_dw s * (256 * t)) (lm_ts (lm_Fg (fun i c => (lm_dg1 s : Int) - Z i c)) (lm_dw s)) ∧ ∀ u, u < lm_dsz s → m' 328 u = m 328 u) (fun t ht m1 n1 ⟨en, g1, g2, g3, g4, g5⟩ => by
    have h1 := hdl (t + 1) (by omega)
    have h2 := e8 t
    have h3 := e8 (t + 1)
    have E1 : lm_RE s m1 := hE.of fun j _ _ => g2 j (by omega)
    obtain ⟨m2, c2, p2, t2, f2, o2, b2⟩ := lm_u88a (sc := sc) (d := d + 4) (m := m1) (n := n1) (x := x) (q := 328) (v := 8192) (p := 270 + (23 + t)) (a := lm_dsz s) (T := lm_dw s * (256 * t)) (bits := lm_dw s) (B := (lm_dg1 s : Int)) (V := Z t) (S := lm_ts (lm_Fg (fun i c => (lm_dg1 s : Int) - Z i c)) (lm_dw s)) rfl (by decide) (by decide) (lm_arY (23 + t) (by omega)) (by omega) g3 (by omega) (by rw [← Nat.mul_add, show 256 * t + 256 = 256 * (t + 1) by omega]; omega) (by omega) (fun c hc => by
      have hz := hZ t ht c hc
      exact ⟨by rw [g1 _ (by omega) (by omega)]; exact hz.1, by omega, by omega⟩) g4 (fun i hi k hk => by
      rw [lm_Fg_ts (by omega) hi hk])
    rw [← Nat.mul_add, show 256 * t + 256 = 256 * (t + 1) by omega] at p2 t2
    refine ⟨m2, n1, ⟨en, fun r q1 q2 => by rw [f2 r q1 q2, g1 r q1 q2], fun j hj => by rw [o2 j hj, g2 j hj], t2, p2, fun u hu => by rw [b2 u (by omega), g5 u hu]⟩, fun R KK => lm_e99_828 ?_⟩
    clear g4 hZ hH p2
    unfold lm_q99_828
    repeat (first
    | ((with_reducible apply lm_sI); exact rfl)
    | ((with_reducible apply lm_sR); exact rfl)
    | ((with_reducible apply lm_sS); exact rfl; exact rfl)
    | ((with_reducible apply lm_sL); exact rfl)
    | ((with_reducible apply lm_sP); exact rfl; exact rfl)
    | ((with_reducible apply lm_sPL); exact rfl; exact rfl)
    | ((with_reducible apply lm_sAA); exact rfl; exact rfl)
    | ((with_reducible apply lm_sA); (first | exact rfl | assumption); omega)
    | ((with_reducible apply lm_sJ); (first | exact rfl | assumption); omega)
    | ((with_reducible apply lm_sB); (first | exact rfl | assumption); omega)
    | ((with_reducible apply lm_wA); (first | exact rfl | assumption); omega)
    | ((with_reducible apply lm_wJ); (first | exact rfl | assumption); omega)
    | ((with_reducible apply lm_wB); (first | exact rfl | assumption); omega)
    | ((with_reducible apply lm_sAl); (first | exact rfl | assumption); omega)
    | ((with_reducible apply lm_iW); decide))
    simp only [Nat.reduceDiv, Nat.reduceMod]
    rw [g2 42 (by decide), h42]
    refine lm_geF (by omega) (by omega) (by omega) ?_
    rw [show Int32.ofInt 23 = Int32.ofNat 23 from rfl, lm_oo]
    repeat (first
    | ((with_reducible apply lm_sI); exact rfl)
    | ((with_reducible apply lm_sR); exact rfl)
    | ((with_reducible apply lm_sS); exact rfl; exact rfl)
    | ((with_reducible apply lm_sL); exact rfl)
    | ((with_reducible apply lm_sP); exact rfl; exact rfl)
    | ((with_reducible apply lm_sPL); exact rfl; exact rfl)
    | ((with_reducible apply lm_sAA); exact rfl; exact rfl)
    | ((with_reducible apply lm_sA); (first | exact rfl | assumption); omega)
    | ((with_reducible apply lm_sJ); (first | exact rfl | assumption); omega)
    | ((with_reducible apply lm_sB); (first | exact rfl | assumption); omega)
    | ((with_reducible apply lm_wA); (first | exact rfl | assumption); omega)
    | ((with_reducible apply lm_wJ); (first | exact rfl | assumption); omega)
    | ((with_reducible apply lm_wB); (first | exact rfl | assumption); omega)
    | ((with_reducible apply lm_sAl); (first | exact rfl | assumption); omega)
    | ((with_reducible apply lm_iW); decide))
    refine lm_sAA rfl (lm_roY (23 + t) (by omega)) ?_
    repeat (first
    | ((with_reducible apply lm_sI); exact rfl)
    | ((with_reducible apply lm_sR); exact rfl)
    | ((with_reducible apply lm_sS); exact rfl; exact rfl)
    | ((with_reducible apply lm_sL); exact rfl)
    | ((with_reducible apply lm_sP); exact rfl; exact rfl)
    | ((with_reducible apply lm_sPL); exact rfl; exact rfl)
    | ((with_reducible apply lm_sAA); exact rfl; exact rfl)
    | ((with_reducible apply lm_sA); (first | exact rfl | assumption); omega)
    | ((with_reducible apply lm_sJ); (first | exact rfl | assumption); omega)
    | ((with_reducible apply lm_sB); (first | exact rfl | assumption); omega)
    | ((with_reducible apply lm_wA); (first | exact rfl | assumption); omega)
    | ((with_reducible apply lm_wJ); (first | exact rfl | assumption); omega)
    | ((with_reducible apply lm_wB); (first | exact rfl | assumption); omega)
    | ((with_reducible apply lm_sAl); (first | exact rfl | assumption); omega)
    | ((with_reducible apply lm_iW); decide))
    simp only [Nat.reduceDiv, Nat.reduceMod]
    rw [E1.2.2.2.2.1, E1.2.1, E1.2.2.2.2.2, lm_oN (lm_dg1 s)]
    refine lm_cV c2 ?_
    rw [lm_K1, lm_oo]
    exact KK) (lm_dl s) 0 (by omega) m n ⟨rfl, fun _ _ _ => rfl, fun _ _ => rfl, by rw [h24]; rfl, ⟨fun t ht => absurd ht (by omega), fun t _ _ g => absurd (show lm_dw s * (256 * 0) % 8 = 0 by omega) g⟩, fun _ _ => rfl⟩
  subst en
  have hd1 := hdl (lm_dl s) (by omega)
  have hd2 := e8 (lm_dl s)
  have E1 : lm_RE s m1 := hE.of fun j _ _ => g2 j (by omega)
  generalize eP : lm_dsz s + 32 * lm_dw s * lm_dl s = P at *
  obtain ⟨m2, n2, ⟨en, a1, a2, a3⟩, k2⟩ := lm_lp (sc := sc) (d := d + 6) (b := lm_do s) (hs := lm_m99.2.2.2.2.1) (code := lm_reg lm_m99.2.2.2.2.2) (x := x) (fr := fun z => (898, [(0, .ref 203), (5, .int (Int32.ofNat P)), (6, .int (Int32.ofNat 0)), (7, .int (Int32.ofNat z))], [])) (I := fun z m' n' => n' = n1 ∧ (∀ r, r ≠ 328 → m' r = m1 r) ∧ (∀ u, u < P → m' 328 u = m1 328 u) ∧ ∀ u, u < z → m' 328 (P + u) = Int32.ofNat 0) (fun z hz m2 n2 ⟨en, a1, a2, a3⟩ => by
    refine ⟨lm_u m2 328 (P + z) (Int32.ofNat 0), n2, ⟨en, fun r hr => (lm_u_row hr).trans (a1 r hr), fun u hu => by rw [lm_u_ne (by omega)]; exact a2 u hu, fun u hu => ?_⟩, fun R KK => lm_e99_898 ?_⟩
    · by_cases c0 : u = z
      · subst c0; rw [lm_u_eq]
      · rw [lm_u_ne (by omega)]; exact a3 u (by omega)
    · unfold lm_q99_898
      repeat (first
    | ((with_reducible apply lm_sI); exact rfl)
    | ((with_reducible apply lm_sR); exact rfl)
    | ((with_reducible apply lm_sS); exact rfl; exact rfl)
    | ((with_reducible apply lm_sL); exact rfl)
    | ((with_reducible apply lm_sP); exact rfl; exact rfl)
    | ((with_reducible apply lm_sPL); exact rfl; exact rfl)
    | ((with_reducible apply lm_sAA); exact rfl; exact rfl)
    | ((with_reducible apply lm_sA); (first | exact rfl | assumption); omega)
    | ((with_reducible apply lm_sJ); (first | exact rfl | assumption); omega)
    | ((with_reducible apply lm_sB); (first | exact rfl | assumption); omega)
    | ((with_reducible apply lm_wA); (first | exact rfl | assumption); omega)
    | ((with_reducible apply lm_wJ); (first | exact rfl | assumption); omega)
    | ((with_reducible apply lm_wB); (first | exact rfl | assumption); omega)
    | ((with_reducible apply lm_sAl); (first | exact rfl | assumption); omega)
    | ((with_reducible apply lm_iW); decide))
      simp only [Nat.reduceDiv, Nat.reduceMod]
      rw [a1 203 (by decide), E1.2.2.2.1]
      refine lm_geF (by omega) (by omega) (by omega) ?_
      rw [lm_K0, lm_oo]
      repeat (first
    | ((with_reducible apply lm_sI); exact rfl)
    | ((with_reducible apply lm_sR); exact rfl)
    | ((with_reducible apply lm_sS); exact rfl; exact rfl)
    | ((with_reducible apply lm_sL); exact rfl)
    | ((with_reducible apply lm_sP); exact rfl; exact rfl)
    | ((with_reducible apply lm_sPL); exact rfl; exact rfl)
    | ((with_reducible apply lm_sAA); exact rfl; exact rfl)
    | ((with_reducible apply lm_sA); (first | exact rfl | assumption); omega)
    | ((with_reducible apply lm_sJ); (first | exact rfl | assumption); omega)
    | ((with_reducible apply lm_sB); (first | exact rfl | assumption); omega)
    | ((with_reducible apply lm_wA); (first | exact rfl | assumption); omega)
    | ((with_reducible apply lm_wJ); (first | exact rfl | assumption); omega)
    | ((with_reducible apply lm_wB); (first | exact rfl | assumption); omega)
    | ((with_reducible apply lm_sAl); (first | exact rfl | assumption); omega)
    | ((with_reducible apply lm_iW); decide))
      rw [lm_K1, lm_oo]
      exact KK) (lm_do s) 0 (by omega) m1 n1 ⟨rfl, fun _ _ => rfl, fun _ _ => rfl, fun u hu => absurd hu (by omega)⟩
  subst en
  obtain ⟨m3, n3, ⟨en, b1, b2, b3, b4⟩, k3⟩ := lm_lp (sc := sc) (d := d + 6) (b := lm_dk s) (hs := lm_m99.2.2.2.2.1) (code := lm_reg lm_m99.2.2.2.2.2) (x := x) (fr := fun i => (927, [(0, .ref 203), (5, .int (Int32.ofNat P)), (6, .int (Int32.ofNat (lm_hs h (256 * i)).1)), (7, .int (Int32.ofNat i))], [])) (I := fun i m' n' => n' = n2 ∧ (∀ r, r ≠ 328 → m' r = m1 r) ∧ (∀ u, u < P → m' 328 u = m1 328 u) ∧ (∀ u, u < lm_do s → lm_yb (m' 328 (P + u)) = (lm_hs h (256 * i)).2 u) ∧ ∀ i', i' < i → lm_yb (m' 328 (P + lm_do s + i')) = (lm_hs h (256 * (i' + 1))).1) (fun i hi m3 n3 ⟨en, b1, b2, b3, b4⟩ => by
    have ht1 : (lm_hs h (256 * i + 256)).1 ≤ lm_do s := by
      have := lm_hs_m (h := h) (n := 256 * i + 256) (256 * lm_dk s - (256 * i + 256))
      rw [show 256 * i + 256 + (256 * lm_dk s - (256 * i + 256)) = 256 * lm_dk s by omega] at this
      omega
    obtain ⟨m4, ⟨f1, f2, f3⟩, k4⟩ := lm_l99q (sc := sc) (d := d) (m := m3) (n := n3) (x := x) (i := i) (P := P) (w := lm_do s) (h := h) (by omega) (by omega) (by omega) (fun c hc => by rw [b1 _ (by omega), g1 _ (by omega) (by omega)]; exact hH i hi c hc) ht1 b3
    rw [show 256 * i + 256 = 256 * (i + 1) by omega] at f3 k4 ht1
    refine ⟨lm_u m4 328 (P + lm_do s + i) (lm_b8 (Int32.ofNat (lm_hs h (256 * (i + 1))).1)), n3, ⟨en, fun r hr => by rw [lm_u_row hr, f1 r hr, b1 r hr], fun u hu => by rw [lm_u_ne (by omega), f2 u (Or.inl hu), b2 u hu], fun u hu => by rw [lm_u_ne (by omega)]; exact f3 u hu, fun i' hi' => ?_⟩, fun R KK => lm_e99_927 ?_⟩
    · by_cases c0 : i' = i
      · subst c0
        rw [lm_u_eq, lm_yb_b8, lm_yb_n (by omega), Nat.mod_eq_of_lt (by omega)]
      · rw [lm_u_ne (by omega), f2 _ (by omega)]
        exact b4 i' (by omega)
    · clear b3 b4 f3 hZ hH g4
      unfold lm_q99_927
      repeat (first
    | ((with_reducible apply lm_sI); exact rfl)
    | ((with_reducible apply lm_sR); exact rfl)
    | ((with_reducible apply lm_sS); exact rfl; exact rfl)
    | ((with_reducible apply lm_sL); exact rfl)
    | ((with_reducible apply lm_sP); exact rfl; exact rfl)
    | ((with_reducible apply lm_sPL); exact rfl; exact rfl)
    | ((with_reducible apply lm_sAA); exact rfl; exact rfl)
    | ((with_reducible apply lm_sA); (first | exact rfl | assumption); omega)
    | ((with_reducible apply lm_sJ); (first | exact rfl | assumption); omega)
    | ((with_reducible apply lm_sB); (first | exact rfl | assumption); omega)
    | ((with_reducible apply lm_wA); (first | exact rfl | assumption); omega)
    | ((with_reducible apply lm_wJ); (first | exact rfl | assumption); omega)
    | ((with_reducible apply lm_wB); (first | exact rfl | assumption); omega)
    | ((with_reducible apply lm_sAl); (first | exact rfl | assumption); omega)
    | ((with_reducible apply lm_iW); decide))
      simp only [Nat.reduceDiv, Nat.reduceMod]
      rw [b1 203 (by decide), g2 32 (by decide), h32]
      refine lm_geF (by omega) (by omega) (by omega) ?_
      rw [lm_K0]
      refine k4 R (lm_e99_939 ?_)
      unfold lm_q99_939
      rw [lm_K256]
      refine lm_geT (by omega) (by omega) (by omega) ?_
      repeat (first
    | ((with_reducible apply lm_sI); exact rfl)
    | ((with_reducible apply lm_sR); exact rfl)
    | ((with_reducible apply lm_sS); exact rfl; exact rfl)
    | ((with_reducible apply lm_sL); exact rfl)
    | ((with_reducible apply lm_sP); exact rfl; exact rfl)
    | ((with_reducible apply lm_sPL); exact rfl; exact rfl)
    | ((with_reducible apply lm_sAA); exact rfl; exact rfl)
    | ((with_reducible apply lm_sA); (first | exact rfl | assumption); omega)
    | ((with_reducible apply lm_sJ); (first | exact rfl | assumption); omega)
    | ((with_reducible apply lm_sB); (first | exact rfl | assumption); omega)
    | ((with_reducible apply lm_wA); (first | exact rfl | assumption); omega)
    | ((with_reducible apply lm_wJ); (first | exact rfl | assumption); omega)
    | ((with_reducible apply lm_wB); (first | exact rfl | assumption); omega)
    | ((with_reducible apply lm_sAl); (first | exact rfl | assumption); omega)
    | ((with_reducible apply lm_iW); decide))
      simp only [Nat.reduceDiv, Nat.reduceMod]
      rw [f1 203 (by decide), b1 203 (by decide), E1.2.2.2.1, lm_oo, lm_oo]
      repeat (first
    | ((with_reducible apply lm_sI); exact rfl)
    | ((with_reducible apply lm_sR); exact rfl)
    | ((with_reducible apply lm_sS); exact rfl; exact rfl)
    | ((with_reducible apply lm_sL); exact rfl)
    | ((with_reducible apply lm_sP); exact rfl; exact rfl)
    | ((with_reducible apply lm_sPL); exact rfl; exact rfl)
    | ((with_reducible apply lm_sAA); exact rfl; exact rfl)
    | ((with_reducible apply lm_sA); (first | exact rfl | assumption); omega)
    | ((with_reducible apply lm_sJ); (first | exact rfl | assumption); omega)
    | ((with_reducible apply lm_sB); (first | exact rfl | assumption); omega)
    | ((with_reducible apply lm_wA); (first | exact rfl | assumption); omega)
    | ((with_reducible apply lm_wJ); (first | exact rfl | assumption); omega)
    | ((with_reducible apply lm_wB); (first | exact rfl | assumption); omega)
    | ((with_reducible apply lm_sAl); (first | exact rfl | assumption); omega)
    | ((with_reducible apply lm_iW); decide))
      rw [lm_K1, lm_oo]
      exact KK) (lm_dk s) 0 (by omega) m2 n2 ⟨rfl, a1, a2, fun u hu => by rw [a3 u hu]; rfl, fun i' hi' => absurd hi' (by omega)⟩
  subst en
  refine ⟨m3, ?_, fun r q1 q2 => by rw [b1 r q2, g1 r q1 q2], fun j hj => by rw [b1 203 (by decide), g2 j hj], fun t ht => by rw [b2 t (by omega), g5 t ht], fun t ht => ?_, b3, b4⟩
  · clear b3 b4 a3 hZ hH g4
    refine k1 _ (lm_e99_828 ?_)
    unfold lm_q99_828
    repeat (first
    | ((with_reducible apply lm_sI); exact rfl)
    | ((with_reducible apply lm_sR); exact rfl)
    | ((with_reducible apply lm_sS); exact rfl; exact rfl)
    | ((with_reducible apply lm_sL); exact rfl)
    | ((with_reducible apply lm_sP); exact rfl; exact rfl)
    | ((with_reducible apply lm_sPL); exact rfl; exact rfl)
    | ((with_reducible apply lm_sAA); exact rfl; exact rfl)
    | ((with_reducible apply lm_sA); (first | exact rfl | assumption); omega)
    | ((with_reducible apply lm_sJ); (first | exact rfl | assumption); omega)
    | ((with_reducible apply lm_sB); (first | exact rfl | assumption); omega)
    | ((with_reducible apply lm_wA); (first | exact rfl | assumption); omega)
    | ((with_reducible apply lm_wJ); (first | exact rfl | assumption); omega)
    | ((with_reducible apply lm_wB); (first | exact rfl | assumption); omega)
    | ((with_reducible apply lm_sAl); (first | exact rfl | assumption); omega)
    | ((with_reducible apply lm_iW); decide))
    simp only [Nat.reduceDiv, Nat.reduceMod]
    rw [g2 42 (by decide), h42]
    refine lm_geT (by omega) (by omega) (by omega) ?_
    repeat (first
    | ((with_reducible apply lm_sI); exact rfl)
    | ((with_reducible apply lm_sR); exact rfl)
    | ((with_reducible apply lm_sS); exact rfl; exact rfl)
    | ((with_reducible apply lm_sL); exact rfl)
    | ((with_reducible apply lm_sP); exact rfl; exact rfl)
    | ((with_reducible apply lm_sPL); exact rfl; exact rfl)
    | ((with_reducible apply lm_sAA); exact rfl; exact rfl)
    | ((with_reducible apply lm_sA); (first | exact rfl | assumption); omega)
    | ((with_reducible apply lm_sJ); (first | exact rfl | assumption); omega)
    | ((with_reducible apply lm_sB); (first | exact rfl | assumption); omega)
    | ((with_reducible apply lm_wA); (first | exact rfl | assumption); omega)
    | ((with_reducible apply lm_wJ); (first | exact rfl | assumption); omega)
    | ((with_reducible apply lm_wB); (first | exact rfl | assumption); omega)
    | ((with_reducible apply lm_sAl); (first | exact rfl | assumption); omega)
    | ((with_reducible apply lm_iW); decide))
    simp only [Nat.reduceDiv, Nat.reduceMod]
    rw [g2 42 (by decide), h42, E1.2.2.2.2.1, E1.2.2.2.2.2, lm_K32, lm_om, lm_om, lm_oo, lm_K0, show lm_dsz s + 32 * lm_dl s * lm_dw s = P by rw [← eP, Nat.mul_right_comm]]
    refine k2 _ (lm_e99_898 ?_)
    unfold lm_q99_898
    repeat (first
    | ((with_reducible apply lm_sI); exact rfl)
    | ((with_reducible apply lm_sR); exact rfl)
    | ((with_reducible apply lm_sS); exact rfl; exact rfl)
    | ((with_reducible apply lm_sL); exact rfl)
    | ((with_reducible apply lm_sP); exact rfl; exact rfl)
    | ((with_reducible apply lm_sPL); exact rfl; exact rfl)
    | ((with_reducible apply lm_sAA); exact rfl; exact rfl)
    | ((with_reducible apply lm_sA); (first | exact rfl | assumption); omega)
    | ((with_reducible apply lm_sJ); (first | exact rfl | assumption); omega)
    | ((with_reducible apply lm_sB); (first | exact rfl | assumption); omega)
    | ((with_reducible apply lm_wA); (first | exact rfl | assumption); omega)
    | ((with_reducible apply lm_wJ); (first | exact rfl | assumption); omega)
    | ((with_reducible apply lm_wB); (first | exact rfl | assumption); omega)
    | ((with_reducible apply lm_sAl); (first | exact rfl | assumption); omega)
    | ((with_reducible apply lm_iW); decide))
    simp only [Nat.reduceDiv, Nat.reduceMod]
    rw [a1 203 (by decide), E1.2.2.2.1]
    refine lm_geT (by omega) (by omega) (by omega) ?_
    rw [lm_K0]
    refine k3 _ (lm_e99_927 ?_)
    unfold lm_q99_927
    repeat (first
    | ((with_reducible apply lm_sI); exact rfl)
    | ((with_reducible apply lm_sR); exact rfl)
    | ((with_reducible apply lm_sS); exact rfl; exact rfl)
    | ((with_reducible apply lm_sL); exact rfl)
    | ((with_reducible apply lm_sP); exact rfl; exact rfl)
    | ((with_reducible apply lm_sPL); exact rfl; exact rfl)
    | ((with_reducible apply lm_sAA); exact rfl; exact rfl)
    | ((with_reducible apply lm_sA); (first | exact rfl | assumption); omega)
    | ((with_reducible apply lm_sJ); (first | exact rfl | assumption); omega)
    | ((with_reducible apply lm_sB); (first | exact rfl | assumption); omega)
    | ((with_reducible apply lm_wA); (first | exact rfl | assumption); omega)
    | ((with_reducible apply lm_wJ); (first | exact rfl | assumption); omega)
    | ((with_reducible apply lm_wB); (first | exact rfl | assumption); omega)
    | ((with_reducible apply lm_sAl); (first | exact rfl | assumption); omega)
    | ((with_reducible apply lm_iW); decide))
    simp only [Nat.reduceDiv, Nat.reduceMod]
    rw [b1 203 (by decide), g2 32 (by decide), h32]
    exact lm_geT (by omega) (by omega) (by omega) rfl
  · rw [b2 _ (by omega), lm_PB_yb g4 (j := t) (by omega), lm_pkB_g (by omega)]
end LMSC
