/-! ===== dsaVerify of the class: recover, applyHints ===== -/
/-- the public's polynomials -/
def ln_v1 (P : Nat → Int32) (i c : Nat) : Nat := ln_bv (ln_bt (fun j => P (32 + 320 * i + j))) (c * 10) 10
theorem ln_v1_b {P : Nat → Int32} {i c : Nat} : ln_v1 P i c < 1024 := lm_bv_lt
/-- a row that is recovered -/
def ln_vW (A : Nat → Nat → Nat → Int) (Z : Nat → Nat → Int) (B : Nat → Int) (T : Nat → Nat → Nat) (l i c : Nat) : Int := lm_ut (fun j => ln_sg l (fun t => A i t j * ln_pt (Z t) j) - ln_pt B j * ln_pt (fun c => ((T i c * 8192 : Nat) : Int)) j) c % 8380417
theorem ln_vW_b {A : Nat → Nat → Nat → Int} {Z : Nat → Nat → Int} {B : Nat → Int} {T : Nat → Nat → Nat} {l i c : Nat} : 0 ≤ ln_vW A Z B T l i c ∧ ln_vW A Z B T l i c < 8380417 := ⟨Int.emod_nonneg _ (by decide), Int.emod_lt_of_pos _ (by decide)⟩
section LMVC
variable {xs : List Int32} {sc : lm_H} {C : lm_CX} {d s : Nat} {m : lm_MI} {n : lm_ML} {x : lm_H × Nat × Nat}
theorem lm_u255 {i : Nat} {Am : Nat → Nat → Nat → Int} {Z : Nat → Nat → Int} {Bc : Nat → Int} (hs : s ≤ 2) (hi : i < lm_dk s) (h : lm_DC m s) (hz : ∀ k, k < 256 → m 77 k = Int32.ofInt (lm_zd k)) (hA : ∀ t, t < lm_dl s → ∀ c, c < 256 → m (79 + (i * lm_dl s + t)) c = Int32.ofInt (Am i t c) ∧ 0 ≤ Am i t c ∧ Am i t c ≤ 8380416) (hU : ∀ t, t < lm_dl s → lm_pts m (161 + t) (Z t)) (hB : lm_pts m 185 Bc) : ∃ m', lm_cal (lm_sc xs) (d + 3) 255 [.ref 76, .int (Int32.ofNat i), .ref 29] (lm_w m n x) = some (.ok none, lm_w m' n x) ∧ (∀ r, r ≠ 186 → r ≠ 177 + i → m' r = m r) ∧ ∀ c, c < 256 → m' (177 + i) c = Int32.ofInt (ln_vW Am Z Bc (ln_v1 (m 29)) (lm_dl s) i c) := by
  have hkl := lm_dkl hs
  have hil : i * lm_dl s + lm_dl s ≤ 8 * 7 := by
    rw [← Nat.succ_mul]
    exact Nat.mul_le_mul (by omega) hkl.2.1
  have aW := lm_arW8 i (by omega)
  obtain ⟨m1, c1, p1⟩ := lm_u227 (sc := lm_sc xs) (e := d + 1) (m := m) (n := n) (x := x) (q := 29) (v := 65536) (p := 186) (a := 32 + 320 * i) (d := 10) rfl rfl (by decide) (by decide) (by decide) (by decide) (by omega)
  obtain ⟨m2, n2, ⟨en, h1⟩, k2⟩ := lm_lp (sc := lm_sc xs) (d := d + 2) (b := 256) (hs := lm_m255.2.2.2.2.1) (code := lm_reg lm_m255.2.2.2.2.2) (x := x) (fr := fun c => (20, [(0, .ref 76), (1, .int (Int32.ofNat i)), (3, .int (Int32.ofNat c))], [])) (I := fun c m' n' => n' = n ∧ lm_PA m m' 186 (fun j => if j < c then ((ln_v1 (m 29) i j * 8192 : Nat) : Int) else (ln_v1 (m 29) i j : Nat))) (fun c hc m2 n2 ⟨en, h1⟩ => by
    have e := h1.2 c hc
    have b := ln_v1_b (P := m 29) (i := i) (c := c)
    dsimp only at e
    rw [if_neg (by omega), ← lm_oN] at e
    refine ⟨lm_u m2 186 c (Int32.ofNat (ln_v1 (m 29) i c * 8192)), n2, ⟨en, fun r hr => (lm_u_row hr).trans (h1.1 r hr), fun j hj => ?_⟩, fun R K => lm_e255_20 ?_⟩
    · dsimp only
      by_cases c0 : j = c
      · subst c0
        rw [lm_u_eq, if_pos (by omega), lm_oN]
      · rw [lm_u_ne (by omega), h1.2 j hj]
        dsimp only
        by_cases c2 : j < c
        · rw [if_pos c2, if_pos (by omega)]
        · rw [if_neg c2, if_neg (by omega)]
    · unfold lm_q255_20
      rw [lm_K256]
      refine lm_geF (by omega) (by omega) (by omega) ?_
      repeat (first
    | ((with_reducible apply lm_sI); exact rfl)
    | ((with_reducible apply lm_sR); exact rfl)
    | ((with_reducible apply lm_sS); exact rfl; exact rfl)
    | ((with_reducible apply lm_sL); exact rfl)
    | ((with_reducible apply lm_sP); exact rfl; exact rfl)
    | ((with_reducible apply lm_sPL); exact rfl; exact rfl)
    | ((with_reducible apply lm_sAA); exact rfl; exact rfl)
    | ((with_reducible apply lm_sA); (first | exact rfl | assumption); omega)
    | ((with_reducible apply lm_sJ); (first | exact rfl | assumption); omega)
    | ((with_reducible apply lm_sB); (first | exact rfl | assumption); omega)
    | ((with_reducible apply lm_wA); (first | exact rfl | assumption); omega)
    | ((with_reducible apply lm_wJ); (first | exact rfl | assumption); omega)
    | ((with_reducible apply lm_wB); (first | exact rfl | assumption); omega)
    | ((with_reducible apply lm_sAl); (first | exact rfl | assumption); omega)
    | ((with_reducible apply lm_iW); decide))
      rw [e, show Int32.ofInt 13 = Int32.ofNat 13 from rfl, lm_slN (by decide) (by omega) (by omega), lm_K1, lm_oo]
      exact K) 256 0 (by omega) m1 n ⟨rfl, p1.hl fun j _ => by rw [if_neg (by omega)]; rfl⟩
  subst en
  have h2 : lm_PA m m2 186 (fun j => ((ln_v1 (m 29) i j * 8192 : Nat) : Int)) := h1.hl fun j hj => by rw [if_pos hj]
  obtain ⟨m3, Uu, c3, p3, u3, b3⟩ := lm_u236 (sc := lm_sc xs) (d := d + 1) (m := m2) (n := n2) (x := x) (p := 186) (G := fun j => ((ln_v1 (m 29) i j * 8192 : Nat) : Int)) (B := 8380416) rfl (by decide) (fun k hk => by rw [h2.1 77 (by decide)]; exact hz k hk) (by decide) (fun c hc => by
    have := ln_v1_b (P := m 29) (i := i) (c := c)
    show -8380416 ≤ ((ln_v1 (m 29) i c * 8192 : Nat) : Int) ∧ ((ln_v1 (m 29) i c * 8192 : Nat) : Int) ≤ 8380416
    omega) h2.2
  have e3 : ∀ r, r ≠ 186 → m3 r = m r := fun r hr => by rw [p3.1 r hr, h2.1 r hr]
  obtain ⟨m4, c4, p4⟩ := lm_u237 (sc := lm_sc xs) (d := d + 1) (m := m3) (n := n2) (x := x) (l := lm_dl s) (i := i) (p := 177 + i) (x2 := 160) (pl := 161) (A := Am i) (V := fun t c => (m (161 + t) c).toInt) (u := 3) (rs := [162, 163, 164, 165, 166, 167, 168]) aW (by rw [e3 76 (by decide)]; exact h.2.2) hkl.2.1 (by omega) (by omega) (by omega) rfl (fun t ht => (lm_roM7 t (by omega)).1) (fun t ht => (lm_arM7 t (by omega)).1) (fun t ht c hc => by rw [e3 _ (by omega)]; exact (hA t ht c hc).1) (fun t ht c hc => by rw [e3 _ (by omega), Int32.ofInt_toInt]) (fun t ht c hc => by have := hA t ht c hc; omega) (fun t ht c hc => (hU t ht c hc).2)
  have e4 : ∀ r, r ≠ 186 → r ≠ 177 + i → m4 r = m r := fun r q1 q2 => by rw [p4.1 r q2, e3 r q1]
  obtain ⟨m5, n5, ⟨en, g1, g2, g3⟩, k5⟩ := lm_lp (sc := lm_sc xs) (d := d + 2) (b := 256) (hs := lm_m255.2.2.2.2.1) (code := lm_reg lm_m255.2.2.2.2.2) (x := x) (fr := fun c => (69, [(0, .ref 76), (1, .int (Int32.ofNat i)), (3, .int (Int32.ofNat c))], [])) (I := fun c m' n' => n' = n2 ∧ (∀ r, r ≠ 177 + i → m' r = m4 r) ∧ (∀ c', c' < c → m' (177 + i) c' = Int32.ofInt (((lm_mr (Am i) (fun t c => (m (161 + t) c).toInt) (lm_dl s) c').tmod 8380417 - (m 185 c').toInt * Uu c').tmod 8380417)) ∧ ∀ c', c ≤ c' → m' (177 + i) c' = m4 (177 + i) c') (fun c hc m5 n5 ⟨en, g1, g2, g3⟩ => by
    have b1 := lm_tmb (a := lm_mr (Am i) (fun t c => (m (161 + t) c).toInt) (lm_dl s) c) (show (0 : Int) < 8380417 by decide)
    have b2 := (hB c hc).2
    have b3' := b3 c hc
    have b4 := lm_mulb (A := 100000000) (B := 100000000) b2 (show -100000000 ≤ Uu c ∧ Uu c ≤ 100000000 by omega)
    have eR : m5 (177 + i) c = Int32.ofInt ((lm_mr (Am i) (fun t c => (m (161 + t) c).toInt) (lm_dl s) c).tmod 8380417) := by rw [g3 c (by omega)]; exact p4.2 c hc
    have eX : m5 185 c = Int32.ofInt (m 185 c).toInt := by rw [g1 185 (by omega), e4 185 (by decide) (by omega), Int32.ofInt_toInt]
    have eY : m5 186 c = Int32.ofInt (Uu c) := by rw [g1 186 (by omega), p4.1 186 (by omega)]; exact p3.2 c hc
    refine ⟨lm_u m5 (177 + i) c (Int32.ofInt (((lm_mr (Am i) (fun t c => (m (161 + t) c).toInt) (lm_dl s) c).tmod 8380417 - (m 185 c).toInt * Uu c).tmod 8380417)), n5, ⟨en, fun r hr => (lm_u_row hr).trans (g1 r hr), fun c' hc' => ?_, fun c' hc' => ?_⟩, fun R K => lm_e255_69 ?_⟩
    · by_cases c0 : c' = c
      · subst c0; rw [lm_u_eq]
      · rw [lm_u_ne (fun q => c0 q.2)]; exact g2 c' (by omega)
    · rw [lm_u_ne (by omega)]; exact g3 c' (by omega)
    · clear g2 g3 hA hU
      unfold lm_q255_69
      rw [lm_K256]
      refine lm_geF (by omega) (by omega) (by omega) ?_
      repeat (first
    | ((with_reducible apply lm_sI); exact rfl)
    | ((with_reducible apply lm_sR); exact rfl)
    | ((with_reducible apply lm_sS); exact rfl; exact rfl)
    | ((with_reducible apply lm_sL); exact rfl)
    | ((with_reducible apply lm_sP); exact rfl; exact rfl)
    | ((with_reducible apply lm_sPL); exact rfl; exact rfl)
    | ((with_reducible apply lm_sAA); exact rfl; exact rfl)
    | ((with_reducible apply lm_sA); (first | exact rfl | assumption); omega)
    | ((with_reducible apply lm_sJ); (first | exact rfl | assumption); omega)
    | ((with_reducible apply lm_sB); (first | exact rfl | assumption); omega)
    | ((with_reducible apply lm_wA); (first | exact rfl | assumption); omega)
    | ((with_reducible apply lm_wJ); (first | exact rfl | assumption); omega)
    | ((with_reducible apply lm_wB); (first | exact rfl | assumption); omega)
    | ((with_reducible apply lm_sAl); (first | exact rfl | assumption); omega)
    | ((with_reducible apply lm_iW); decide))
      refine lm_sAA rfl (lm_roW8 i (by omega)) ?_
      repeat (first
    | ((with_reducible apply lm_sI); exact rfl)
    | ((with_reducible apply lm_sR); exact rfl)
    | ((with_reducible apply lm_sS); exact rfl; exact rfl)
    | ((with_reducible apply lm_sL); exact rfl)
    | ((with_reducible apply lm_sP); exact rfl; exact rfl)
    | ((with_reducible apply lm_sPL); exact rfl; exact rfl)
    | ((with_reducible apply lm_sAA); exact rfl; exact rfl)
    | ((with_reducible apply lm_sA); (first | exact rfl | assumption); omega)
    | ((with_reducible apply lm_sJ); (first | exact rfl | assumption); omega)
    | ((with_reducible apply lm_sB); (first | exact rfl | assumption); omega)
    | ((with_reducible apply lm_wA); (first | exact rfl | assumption); omega)
    | ((with_reducible apply lm_wJ); (first | exact rfl | assumption); omega)
    | ((with_reducible apply lm_wB); (first | exact rfl | assumption); omega)
    | ((with_reducible apply lm_sAl); (first | exact rfl | assumption); omega)
    | ((with_reducible apply lm_iW); decide))
      refine lm_sAA rfl (lm_roW8 i (by omega)) ?_
      repeat (first
    | ((with_reducible apply lm_sI); exact rfl)
    | ((with_reducible apply lm_sR); exact rfl)
    | ((with_reducible apply lm_sS); exact rfl; exact rfl)
    | ((with_reducible apply lm_sL); exact rfl)
    | ((with_reducible apply lm_sP); exact rfl; exact rfl)
    | ((with_reducible apply lm_sPL); exact rfl; exact rfl)
    | ((with_reducible apply lm_sAA); exact rfl; exact rfl)
    | ((with_reducible apply lm_sA); (first | exact rfl | assumption); omega)
    | ((with_reducible apply lm_sJ); (first | exact rfl | assumption); omega)
    | ((with_reducible apply lm_sB); (first | exact rfl | assumption); omega)
    | ((with_reducible apply lm_wA); (first | exact rfl | assumption); omega)
    | ((with_reducible apply lm_wJ); (first | exact rfl | assumption); omega)
    | ((with_reducible apply lm_wB); (first | exact rfl | assumption); omega)
    | ((with_reducible apply lm_sAl); (first | exact rfl | assumption); omega)
    | ((with_reducible apply lm_iW); decide))
      rw [eR, eX, eY, lm_il (by omega) (by omega), lm_il (by omega) (by omega), lm_il (by omega) (by omega), lm_LM, show ∀ a b : Int, Int64.ofInt a - Int64.ofInt b = Int64.ofInt (a - b) from fun a b => (Int64.ofInt_sub a b).symm, lm_LN, lm_LR (by omega) (by omega) (by decide) (by decide), ln_li, lm_K1, lm_oo]
      exact K) 256 0 (by omega) m4 n2 ⟨rfl, fun _ _ => rfl, fun c' hc' => absurd hc' (by omega), fun _ _ => rfl⟩
  subst en
  obtain ⟨m6, c6, p6⟩ := lm_u238 (sc := lm_sc xs) (d := d) (m := m5) (n := n5) (x := x) (p := 177 + i) (G := fun c => ((lm_mr (Am i) (fun t c => (m (161 + t) c).toInt) (lm_dl s) c).tmod 8380417 - (m 185 c).toInt * Uu c).tmod 8380417) aW (by omega) (fun k hk => by rw [g1 77 (by omega), e4 77 (by decide) (by omega)]; exact hz k hk) (fun c hc => by
    have := lm_tmb (a := (lm_mr (Am i) (fun t c => (m (161 + t) c).toInt) (lm_dl s) c).tmod 8380417 - (m 185 c).toInt * Uu c) (show (0 : Int) < 8380417 by decide)
    show -8380416 ≤ ((lm_mr (Am i) (fun t c => (m (161 + t) c).toInt) (lm_dl s) c).tmod 8380417 - (m 185 c).toInt * Uu c).tmod 8380417 ∧ ((lm_mr (Am i) (fun t c => (m (161 + t) c).toInt) (lm_dl s) c).tmod 8380417 - (m 185 c).toInt * Uu c).tmod 8380417 ≤ 8380416
    omega) g2
  refine ⟨m6, ?_, fun r q1 q2 => by rw [p6.1 r q2, g1 r q2, e4 r q1 q2], fun c hc => ?_⟩
  · clear g2 hA hU
    refine lm_cal_of (Y := lm_m255) rfl rfl (lm_e255_0 ?_)
    unfold lm_q255_0
    rw [lm_K32, lm_K10, show Int32.ofInt 320 = Int32.ofNat 320 from rfl, lm_om, lm_oo, lm_K0]
    repeat (first
    | ((with_reducible apply lm_sI); exact rfl)
    | ((with_reducible apply lm_sR); exact rfl)
    | ((with_reducible apply lm_sS); exact rfl; exact rfl)
    | ((with_reducible apply lm_sL); exact rfl)
    | ((with_reducible apply lm_sP); exact rfl; exact rfl)
    | ((with_reducible apply lm_sPL); exact rfl; exact rfl)
    | ((with_reducible apply lm_sAA); exact rfl; exact rfl)
    | ((with_reducible apply lm_sA); (first | exact rfl | assumption); omega)
    | ((with_reducible apply lm_sJ); (first | exact rfl | assumption); omega)
    | ((with_reducible apply lm_sB); (first | exact rfl | assumption); omega)
    | ((with_reducible apply lm_wA); (first | exact rfl | assumption); omega)
    | ((with_reducible apply lm_wJ); (first | exact rfl | assumption); omega)
    | ((with_reducible apply lm_wB); (first | exact rfl | assumption); omega)
    | ((with_reducible apply lm_sAl); (first | exact rfl | assumption); omega)
    | ((with_reducible apply lm_iW); decide))
    refine lm_cV c1 ?_
    refine k2 _ (lm_e255_20 ?_)
    unfold lm_q255_20
    rw [lm_K256]
    refine lm_geT (by omega) (by omega) (by omega) ?_
    repeat (first
    | ((with_reducible apply lm_sI); exact rfl)
    | ((with_reducible apply lm_sR); exact rfl)
    | ((with_reducible apply lm_sS); exact rfl; exact rfl)
    | ((with_reducible apply lm_sL); exact rfl)
    | ((with_reducible apply lm_sP); exact rfl; exact rfl)
    | ((with_reducible apply lm_sPL); exact rfl; exact rfl)
    | ((with_reducible apply lm_sAA); exact rfl; exact rfl)
    | ((with_reducible apply lm_sA); (first | exact rfl | assumption); omega)
    | ((with_reducible apply lm_sJ); (first | exact rfl | assumption); omega)
    | ((with_reducible apply lm_sB); (first | exact rfl | assumption); omega)
    | ((with_reducible apply lm_wA); (first | exact rfl | assumption); omega)
    | ((with_reducible apply lm_wJ); (first | exact rfl | assumption); omega)
    | ((with_reducible apply lm_wB); (first | exact rfl | assumption); omega)
    | ((with_reducible apply lm_sAl); (first | exact rfl | assumption); omega)
    | ((with_reducible apply lm_iW); decide))
    refine lm_cV c3 ?_
    repeat (first
    | ((with_reducible apply lm_sI); exact rfl)
    | ((with_reducible apply lm_sR); exact rfl)
    | ((with_reducible apply lm_sS); exact rfl; exact rfl)
    | ((with_reducible apply lm_sL); exact rfl)
    | ((with_reducible apply lm_sP); exact rfl; exact rfl)
    | ((with_reducible apply lm_sPL); exact rfl; exact rfl)
    | ((with_reducible apply lm_sAA); exact rfl; exact rfl)
    | ((with_reducible apply lm_sA); (first | exact rfl | assumption); omega)
    | ((with_reducible apply lm_sJ); (first | exact rfl | assumption); omega)
    | ((with_reducible apply lm_sB); (first | exact rfl | assumption); omega)
    | ((with_reducible apply lm_wA); (first | exact rfl | assumption); omega)
    | ((with_reducible apply lm_wJ); (first | exact rfl | assumption); omega)
    | ((with_reducible apply lm_wB); (first | exact rfl | assumption); omega)
    | ((with_reducible apply lm_sAl); (first | exact rfl | assumption); omega)
    | ((with_reducible apply lm_iW); decide))
    refine lm_sAA rfl (lm_roW8 i (by omega)) ?_
    repeat (first
    | ((with_reducible apply lm_sI); exact rfl)
    | ((with_reducible apply lm_sR); exact rfl)
    | ((with_reducible apply lm_sS); exact rfl; exact rfl)
    | ((with_reducible apply lm_sL); exact rfl)
    | ((with_reducible apply lm_sP); exact rfl; exact rfl)
    | ((with_reducible apply lm_sPL); exact rfl; exact rfl)
    | ((with_reducible apply lm_sAA); exact rfl; exact rfl)
    | ((with_reducible apply lm_sA); (first | exact rfl | assumption); omega)
    | ((with_reducible apply lm_sJ); (first | exact rfl | assumption); omega)
    | ((with_reducible apply lm_sB); (first | exact rfl | assumption); omega)
    | ((with_reducible apply lm_wA); (first | exact rfl | assumption); omega)
    | ((with_reducible apply lm_wJ); (first | exact rfl | assumption); omega)
    | ((with_reducible apply lm_wB); (first | exact rfl | assumption); omega)
    | ((with_reducible apply lm_sAl); (first | exact rfl | assumption); omega)
    | ((with_reducible apply lm_iW); decide))
    refine lm_cV c4 ?_
    rw [lm_K0]
    refine k5 _ (lm_e255_69 ?_)
    unfold lm_q255_69
    rw [lm_K256]
    refine lm_geT (by omega) (by omega) (by omega) ?_
    repeat (first
    | ((with_reducible apply lm_sI); exact rfl)
    | ((with_reducible apply lm_sR); exact rfl)
    | ((with_reducible apply lm_sS); exact rfl; exact rfl)
    | ((with_reducible apply lm_sL); exact rfl)
    | ((with_reducible apply lm_sP); exact rfl; exact rfl)
    | ((with_reducible apply lm_sPL); exact rfl; exact rfl)
    | ((with_reducible apply lm_sAA); exact rfl; exact rfl)
    | ((with_reducible apply lm_sA); (first | exact rfl | assumption); omega)
    | ((with_reducible apply lm_sJ); (first | exact rfl | assumption); omega)
    | ((with_reducible apply lm_sB); (first | exact rfl | assumption); omega)
    | ((with_reducible apply lm_wA); (first | exact rfl | assumption); omega)
    | ((with_reducible apply lm_wJ); (first | exact rfl | assumption); omega)
    | ((with_reducible apply lm_wB); (first | exact rfl | assumption); omega)
    | ((with_reducible apply lm_sAl); (first | exact rfl | assumption); omega)
    | ((with_reducible apply lm_iW); decide))
    refine lm_sAA rfl (lm_roW8 i (by omega)) ?_
    repeat (first
    | ((with_reducible apply lm_sI); exact rfl)
    | ((with_reducible apply lm_sR); exact rfl)
    | ((with_reducible apply lm_sS); exact rfl; exact rfl)
    | ((with_reducible apply lm_sL); exact rfl)
    | ((with_reducible apply lm_sP); exact rfl; exact rfl)
    | ((with_reducible apply lm_sPL); exact rfl; exact rfl)
    | ((with_reducible apply lm_sAA); exact rfl; exact rfl)
    | ((with_reducible apply lm_sA); (first | exact rfl | assumption); omega)
    | ((with_reducible apply lm_sJ); (first | exact rfl | assumption); omega)
    | ((with_reducible apply lm_sB); (first | exact rfl | assumption); omega)
    | ((with_reducible apply lm_wA); (first | exact rfl | assumption); omega)
    | ((with_reducible apply lm_wJ); (first | exact rfl | assumption); omega)
    | ((with_reducible apply lm_wB); (first | exact rfl | assumption); omega)
    | ((with_reducible apply lm_sAl); (first | exact rfl | assumption); omega)
    | ((with_reducible apply lm_iW); decide))
    exact lm_cV c6 rfl
  · rw [p6.2 c hc]
    unfold ln_vW
    refine congrArg Int32.ofInt (lm_ut_cg (fun j hj => ln_cg.tm.tr (ln_cg.sb (ln_cg.tm.tr ?_) ((hB j hj).1.mu (u3 j hj)))) c).eq
    unfold lm_mr
    exact lm_sg_cg fun t ht => ln_cg.rf.mu (hU t ht j hj).1
/-! the hints of a row, one behind another -/
def ln_fl (hb : Nat → Nat) (p : Nat) : Nat → Nat → Bool
  | 0, _ => false
  | n + 1, c => decide (hb (p + n) = c) || ln_fl hb p n c
theorem ln_fl_t {hb : Nat → Nat} {p c : Nat} : ∀ n, ln_fl hb p n c = true ↔ ∃ j, j < n ∧ hb (p + j) = c := by
  intro n
  induction n with
  | zero => exact ⟨fun h => absurd (show false = true from h) (by decide), fun ⟨j, hj, _⟩ => absurd hj (by omega)⟩
  | succ n ih =>
    show (decide (hb (p + n) = c) || ln_fl hb p n c) = true ↔ _
    rw [Bool.or_eq_true, decide_eq_true_iff, ih]
    constructor
    · rintro (a | ⟨j, hj, e⟩)
      · exact ⟨n, by omega, a⟩
      · exact ⟨j, by omega, e⟩
    · rintro ⟨j, hj, e⟩
      by_cases c0 : j = n
      · subst c0; exact Or.inl e
      · exact Or.inr ⟨j, by omega, e⟩
def lm_pp (hb : Nat → Nat) (p n : Nat) : Nat → Nat
  | 0 => p
  | c + 1 => if lm_pp hb p n c < p + n ∧ hb (lm_pp hb p n c) = c then lm_pp hb p n c + 1 else lm_pp hb p n c
theorem lm_pp_i {hb : Nat → Nat} {p n : Nat} (h : ∀ j, p < j → j < p + n → hb (j - 1) < hb j) : ∀ c, p ≤ lm_pp hb p n c ∧ lm_pp hb p n c ≤ p + n ∧ (∀ j, p ≤ j → j < lm_pp hb p n c → hb j < c) ∧ ∀ j, lm_pp hb p n c ≤ j → j < p + n → c ≤ hb j := by
  have mono : ∀ k j, p ≤ j → j + k < p + n → hb j + k ≤ hb (j + k) := by
    intro k
    induction k with
    | zero => intro j _ _; exact Nat.le_refl _
    | succ k ih =>
      intro j h1 h2
      have := ih j h1 (by omega)
      have g := h (j + (k + 1)) (by omega) (by omega)
      rw [show j + (k + 1) - 1 = j + k by omega] at g
      omega
  intro c
  induction c with
  | zero => exact ⟨Nat.le_refl _, by show p ≤ p + n; omega, fun j h1 h2 => absurd h2 (by show ¬ j < p; omega), fun j _ _ => Nat.zero_le _⟩
  | succ c ih =>
    obtain ⟨i1, i2, i3, i4⟩ := ih
    rw [lm_pp]
    by_cases e : lm_pp hb p n c < p + n ∧ hb (lm_pp hb p n c) = c
    · rw [if_pos e]
      refine ⟨by omega, by omega, fun j h1 h2 => ?_, fun j h1 h2 => ?_⟩
      · by_cases c0 : j = lm_pp hb p n c
        · rw [c0]; omega
        · have := i3 j h1 (by omega); omega
      · have := mono (j - lm_pp hb p n c) (lm_pp hb p n c) i1 (by omega)
        rw [show lm_pp hb p n c + (j - lm_pp hb p n c) = j by omega] at this
        omega
    · rw [if_neg e]
      refine ⟨i1, i2, fun j h1 h2 => by have := i3 j h1 h2; omega, fun j h1 h2 => ?_⟩
      have g1 := i4 j h1 h2
      by_cases c0 : hb j = c
      · exfalso
        have g2 := mono (j - lm_pp hb p n c) (lm_pp hb p n c) i1 (by omega)
        rw [show lm_pp hb p n c + (j - lm_pp hb p n c) = j by omega] at g2
        have g3 := i4 (lm_pp hb p n c) (Nat.le_refl _) (by omega)
        have g4 : j = lm_pp hb p n c := by omega
        rw [g4] at c0
        exact e ⟨by omega, c0⟩
      · omega
theorem lm_pp_f {hb : Nat → Nat} {p n c : Nat} (h : ∀ j, p < j → j < p + n → hb (j - 1) < hb j) : (lm_pp hb p n c < p + n ∧ hb (lm_pp hb p n c) = c) ↔ ln_fl hb p n c = true := by
  obtain ⟨i1, i2, i3, i4⟩ := lm_pp_i h c
  obtain ⟨j1, j2, j3, j4⟩ := lm_pp_i h (c + 1)
  rw [ln_fl_t]
  constructor
  · rintro ⟨a, b⟩
    exact ⟨lm_pp hb p n c - p, by omega, by rw [show p + (lm_pp hb p n c - p) = lm_pp hb p n c by omega]; exact b⟩
  · rintro ⟨j, hj, e⟩
    by_cases q : lm_pp hb p n c < p + n ∧ hb (lm_pp hb p n c) = c
    · exact q
    · exfalso
      have e1 : lm_pp hb p n (c + 1) = lm_pp hb p n c := by rw [lm_pp, if_neg q]
      rw [e1] at j4
      by_cases c0 : p + j < lm_pp hb p n c
      · have := i3 (p + j) (by omega) c0; omega
      · have := j4 (p + j) (by omega) (by omega); omega
theorem lm_pp_e {hb : Nat → Nat} {p n : Nat} (h : ∀ j, p < j → j < p + n → hb (j - 1) < hb j) (hb2 : ∀ j, hb j < 256) : lm_pp hb p n 256 = p + n := by
  obtain ⟨i1, i2, i3, i4⟩ := lm_pp_i h 256
  by_cases c : lm_pp hb p n 256 = p + n
  · exact c
  · exfalso
    have a := i4 (lm_pp hb p n 256) (Nat.le_refl _) (by omega)
    have b := hb2 (lm_pp hb p n 256)
    omega
end LMVC
