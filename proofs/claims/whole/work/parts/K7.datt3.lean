/-! ===== dsaSign: an attempt, as a function of the seeds ===== -/
def lm_aY (C : lm_CX) (U : Nat → Int32) (s j t c : Nat) : Int := lm_zY C U s (j + t) c
def ln_aW (C : lm_CX) (K U : Nat → Int32) (s j i c : Nat) : Int := lm_yT (lm_xAm C K) (lm_aY C U s j) (lm_dl s) i c
def lm_aC (C : lm_CX) (K U V : Nat → Int32) (s j : Nat) : Nat → Int32 := lm_Hm C 12 (lm_cG V (fun i c => lm_hi (lm_dg2 s) (ln_aW C K U s j i c)) (lm_hb s)) (64 + 32 * lm_hb s * lm_dk s)
def lm_aB (C : lm_CX) (K U V : Nat → Int32) (s j : Nat) : Nat × (Nat → Int) := lm_ba (lm_Hm C 12 (fun t => lm_b8 (lm_aC C K U V s j t)) (lm_dsz s)) (lm_dt' s) 121
def lm_aZ (C : lm_CX) (K U V : Nat → Int32) (s j t c : Nat) : Int := lm_aY C U s j t c + ln_ce (lm_ng (lm_aB C K U V s j).2 (lm_zS K s t) c % 8380417)
def lm_aR (C : lm_CX) (K U V : Nat → Int32) (s j i c : Nat) : Int := (ln_aW C K U s j i c - ln_ce (lm_ng (lm_aB C K U V s j).2 (lm_zS K s (lm_dl s + i)) c % 8380417)) % 8380417
def lm_aD (C : lm_CX) (K U V : Nat → Int32) (s j i c : Nat) : Int := ln_ce (lm_ng (lm_aB C K U V s j).2 (lm_zT K s i) c % 8380417)
def lm_aH (C : lm_CX) (K U V : Nat → Int32) (s j : Nat) : Nat → Bool := lm_hf' (lm_dg2 s) (lm_aR C K U V s j) (lm_aD C K U V s j)
/-- the attempt is good -/
def lm_ag (C : lm_CX) (K U V : Nat → Int32) (s j : Nat) : Prop := (∀ t, t < lm_dl s → ∀ c, c < 256 → -((lm_dg1 s - lm_be s : Nat) : Int) < lm_aZ C K U V s j t c ∧ lm_aZ C K U V s j t c < (lm_dg1 s - lm_be s : Nat)) ∧ (∀ i, i < lm_dk s → ∀ c, c < 256 → -((lm_dg2 s - lm_be s : Nat) : Int) < ln_lo (lm_dg2 s) (lm_aR C K U V s j i c) ∧ ln_lo (lm_dg2 s) (lm_aR C K U V s j i c) < (lm_dg2 s - lm_be s : Nat)) ∧ (∀ i, i < lm_dk s → ∀ c, c < 256 → -((lm_dg2 s : Nat) : Int) < lm_aD C K U V s j i c ∧ lm_aD C K U V s j i c < (lm_dg2 s : Nat)) ∧ (lm_hs (lm_aH C K U V s j) (256 * lm_dk s)).1 ≤ lm_do s
/-- what an attempt leaves alone -/
def lm_fA (m : lm_MI) (m' : lm_MI) : Prop := ∀ r, (r < 5 ∨ 22 < r) → (r < 161 ∨ 193 < r ∨ r = 189 ∨ r = 191) → m' r = m r
section LMDY
variable {xs : List Int32} {C : lm_CX} {d s j : Nat} {m : lm_MI} {n : lm_ML} {x : lm_H × Nat × Nat}
theorem lm_aY_b {U : Nat → Int32} {t c : Nat} (hs : s ≤ 2) : -524288 ≤ lm_aY C U s j t c ∧ lm_aY C U s j t c ≤ 524288 := by
  have hpar := lm_dpar s hs
  have := lm_zY_b (C := C) (U := U) (j := j + t) (c := c) hs
  unfold lm_aY
  omega
theorem lm_aW_b {K U : Nat → Int32} {i c : Nat} : 0 ≤ ln_aW C K U s j i c ∧ ln_aW C K U s j i c < 8380417 := by
  unfold ln_aW
  exact lm_yT_b
/-- the masks and their points -/
theorem lm_l245a (hC : lm_Cok xs C) (hr : ln_rt m) (hs : s ≤ 2) (h : lm_DC m s) (hz : ∀ k, k < 256 → m 77 k = Int32.ofInt (lm_zd k)) (hj : j + 7 ≤ 60000) : ∃ m' n', ((∀ r, (r < 5 ∨ 22 < r) → (r < 161 ∨ 175 < r) → r ≠ 188 → r ≠ 190 → m' r = m r) ∧ lm_fN m n m' n' ∧ ∀ t, t < lm_dl s → (∀ c, c < 256 → m' (161 + t) c = Int32.ofInt (lm_aY C (m 189) s j t c)) ∧ lm_pts m' (169 + t) (lm_aY C (m 189) s j t)) ∧ ∀ R, lm_rn (lm_sc xs) (d + 5) lm_m245.2.2.2.2.1 (lm_reg lm_m245.2.2.2.2.2) (2, [(0, .ref 76), (1, .int (Int32.ofNat j)), (2, .int (Int32.ofNat (lm_dl s)))], []) (lm_w m' n' x) = some R → lm_rn (lm_sc xs) (d + 5) lm_m245.2.2.2.2.1 (lm_reg lm_m245.2.2.2.2.2) (2, [(0, .ref 76), (1, .int (Int32.ofNat j)), (2, .int (Int32.ofNat 0))], []) (lm_w m n x) = some R := by
  have hkl := lm_dkl hs
  refine lm_lp (sc := lm_sc xs) (d := d + 5) (b := lm_dl s) (hs := lm_m245.2.2.2.2.1) (code := lm_reg lm_m245.2.2.2.2.2) (x := x) (fr := fun t => (2, [(0, .ref 76), (1, .int (Int32.ofNat j)), (2, .int (Int32.ofNat t))], [])) (I := fun t m' n' => (∀ r, (r < 5 ∨ 22 < r) → (r < 161 ∨ 175 < r) → r ≠ 188 → r ≠ 190 → m' r = m r) ∧ lm_fN m n m' n' ∧ ∀ t', t' < t → (∀ c, c < 256 → m' (161 + t') c = Int32.ofInt (lm_aY C (m 189) s j t' c)) ∧ lm_pts m' (169 + t') (lm_aY C (m 189) s j t')) (fun t ht m1 n1 ⟨g1, g2, g3⟩ => ?_) (lm_dl s) 0 (by omega) m n ⟨fun _ _ _ _ _ => rfl, .rf, fun t' ht' => absurd ht' (by omega)⟩
  have e76 : m1 76 = m 76 := g1 76 (by decide) (by decide) (by decide) (by decide)
  have e189 : m1 189 = m 189 := g1 189 (by decide) (by decide) (by decide) (by decide)
  have a7 := lm_arM7 t (by omega)
  have r7 := lm_roM7 t (by omega)
  obtain ⟨m2, n2, c2, f2, gN, v2⟩ := lm_u296 (xs := xs) (d := d) (m := m1) (n := n1) (x := x) (s := s) (p := 161 + t) (j := j + t) hC (g2.rt hr) hs (by rw [e76]; exact h.1) a7.1 (by omega)
  rw [e189] at v2
  generalize eM : lm_cp m2 (169 + t) 0 (161 + t) 0 256 = M
  have rM : ∀ r, r ≠ 169 + t → M r = m2 r := fun r hr => by rw [← eM, lm_cp_row hr]
  have vM : ∀ c, c < 256 → M (169 + t) c = Int32.ofInt (lm_aY C (m 189) s j t c) := fun c hc => by
    rw [← eM, lm_rc, if_pos ⟨rfl, by omega, by omega⟩, Nat.sub_zero, Nat.add_zero, v2 c hc]
    rfl
  obtain ⟨m3, U, c3, p3, u3, b3⟩ := lm_u236 (sc := lm_sc xs) (d := d + 4) (m := M) (n := n2) (x := x) (p := 169 + t) (G := lm_aY C (m 189) s j t) (B := 524288) a7.2 (by omega) (fun k hk => by rw [rM 77 (by omega), f2 77 (by decide) (by decide) (by decide) (by omega), g1 77 (by decide) (by decide) (by decide) (by decide)]; exact hz k hk) (by decide) (fun c hc => lm_aY_b hs) vM
  have fr : ∀ r, (r < 5 ∨ 22 < r) → r ≠ 188 → r ≠ 190 → r ≠ 161 + t → r ≠ 169 + t → m3 r = m1 r := fun r q1 q2 q3 q4 q5 => by rw [p3.1 r q5, rM r q5, f2 r q1 q2 q3 q4]
  refine ⟨m3, n2, ⟨fun r q1 q2 q3 q4 => by rw [fr r q1 q3 q4 (by omega) (by omega), g1 r q1 q2 q3 q4], g2.tr (gN.tr (.of ?_ ?_)), fun t' ht' => ?_⟩, fun R K => lm_e245_2 ?_⟩
  · rw [p3.1 11 (by omega), rM 11 (by omega)]
  · rw [p3.1 17 (by omega), rM 17 (by omega)]
  · by_cases c0 : t' = t
    · subst c0
      refine ⟨fun c hc => ?_, fun c hc => ?_⟩
      · rw [p3.1 _ (by omega), rM _ (by omega), v2 c hc]
        rfl
      · have b := b3 c hc
        rw [p3.2 c hc, lm_iT0 (by omega) (by omega)]
        exact ⟨u3 c hc, by omega, by omega⟩
    · obtain ⟨a1, a2⟩ := g3 t' (by omega)
      refine ⟨fun c hc => ?_, fun c hc => ?_⟩
      · rw [fr _ (by omega) (by omega) (by omega) (by omega) (by omega)]; exact a1 c hc
      · rw [fr _ (by omega) (by omega) (by omega) (by omega) (by omega)]; exact a2 c hc
  · clear g3
    unfold lm_q245_2
    repeat (first
    | ((with_reducible apply lm_sI); exact rfl)
    | ((with_reducible apply lm_sR); exact rfl)
    | ((with_reducible apply lm_sS); exact rfl; exact rfl)
    | ((with_reducible apply lm_sL); exact rfl)
    | ((with_reducible apply lm_sP); exact rfl; exact rfl)
    | ((with_reducible apply lm_sPL); exact rfl; exact rfl)
    | ((with_reducible apply lm_sAA); exact rfl; exact rfl)
    | ((with_reducible apply lm_sA); (first | exact rfl | assumption); omega)
    | ((with_reducible apply lm_sJ); (first | exact rfl | assumption); omega)
    | ((with_reducible apply lm_sB); (first | exact rfl | assumption); omega)
    | ((with_reducible apply lm_wA); (first | exact rfl | assumption); omega)
    | ((with_reducible apply lm_wJ); (first | exact rfl | assumption); omega)
    | ((with_reducible apply lm_wB); (first | exact rfl | assumption); omega)
    | ((with_reducible apply lm_sAl); (first | exact rfl | assumption); omega)
    | ((with_reducible apply lm_iW); decide))
    simp only [Nat.reduceDiv, Nat.reduceMod]
    rw [e76, h.2.2]
    refine lm_geF (by omega) (by omega) (by omega) ?_
    rw [lm_oo]
    repeat (first
    | ((with_reducible apply lm_sI); exact rfl)
    | ((with_reducible apply lm_sR); exact rfl)
    | ((with_reducible apply lm_sS); exact rfl; exact rfl)
    | ((with_reducible apply lm_sL); exact rfl)
    | ((with_reducible apply lm_sP); exact rfl; exact rfl)
    | ((with_reducible apply lm_sPL); exact rfl; exact rfl)
    | ((with_reducible apply lm_sAA); exact rfl; exact rfl)
    | ((with_reducible apply lm_sA); (first | exact rfl | assumption); omega)
    | ((with_reducible apply lm_sJ); (first | exact rfl | assumption); omega)
    | ((with_reducible apply lm_sB); (first | exact rfl | assumption); omega)
    | ((with_reducible apply lm_wA); (first | exact rfl | assumption); omega)
    | ((with_reducible apply lm_wJ); (first | exact rfl | assumption); omega)
    | ((with_reducible apply lm_wB); (first | exact rfl | assumption); omega)
    | ((with_reducible apply lm_sAl); (first | exact rfl | assumption); omega)
    | ((with_reducible apply lm_iW); decide))
    refine lm_sAA rfl r7.1 ?_
    repeat (first
    | ((with_reducible apply lm_sI); exact rfl)
    | ((with_reducible apply lm_sR); exact rfl)
    | ((with_reducible apply lm_sS); exact rfl; exact rfl)
    | ((with_reducible apply lm_sL); exact rfl)
    | ((with_reducible apply lm_sP); exact rfl; exact rfl)
    | ((with_reducible apply lm_sPL); exact rfl; exact rfl)
    | ((with_reducible apply lm_sAA); exact rfl; exact rfl)
    | ((with_reducible apply lm_sA); (first | exact rfl | assumption); omega)
    | ((with_reducible apply lm_sJ); (first | exact rfl | assumption); omega)
    | ((with_reducible apply lm_sB); (first | exact rfl | assumption); omega)
    | ((with_reducible apply lm_wA); (first | exact rfl | assumption); omega)
    | ((with_reducible apply lm_wJ); (first | exact rfl | assumption); omega)
    | ((with_reducible apply lm_wB); (first | exact rfl | assumption); omega)
    | ((with_reducible apply lm_sAl); (first | exact rfl | assumption); omega)
    | ((with_reducible apply lm_iW); decide))
    refine lm_cV c2 ?_
    repeat (first
    | ((with_reducible apply lm_sI); exact rfl)
    | ((with_reducible apply lm_sR); exact rfl)
    | ((with_reducible apply lm_sS); exact rfl; exact rfl)
    | ((with_reducible apply lm_sL); exact rfl)
    | ((with_reducible apply lm_sP); exact rfl; exact rfl)
    | ((with_reducible apply lm_sPL); exact rfl; exact rfl)
    | ((with_reducible apply lm_sAA); exact rfl; exact rfl)
    | ((with_reducible apply lm_sA); (first | exact rfl | assumption); omega)
    | ((with_reducible apply lm_sJ); (first | exact rfl | assumption); omega)
    | ((with_reducible apply lm_sB); (first | exact rfl | assumption); omega)
    | ((with_reducible apply lm_wA); (first | exact rfl | assumption); omega)
    | ((with_reducible apply lm_wJ); (first | exact rfl | assumption); omega)
    | ((with_reducible apply lm_wB); (first | exact rfl | assumption); omega)
    | ((with_reducible apply lm_sAl); (first | exact rfl | assumption); omega)
    | ((with_reducible apply lm_iW); decide))
    refine lm_sAA rfl r7.1 ?_
    repeat (first
    | ((with_reducible apply lm_sI); exact rfl)
    | ((with_reducible apply lm_sR); exact rfl)
    | ((with_reducible apply lm_sS); exact rfl; exact rfl)
    | ((with_reducible apply lm_sL); exact rfl)
    | ((with_reducible apply lm_sP); exact rfl; exact rfl)
    | ((with_reducible apply lm_sPL); exact rfl; exact rfl)
    | ((with_reducible apply lm_sAA); exact rfl; exact rfl)
    | ((with_reducible apply lm_sA); (first | exact rfl | assumption); omega)
    | ((with_reducible apply lm_sJ); (first | exact rfl | assumption); omega)
    | ((with_reducible apply lm_sB); (first | exact rfl | assumption); omega)
    | ((with_reducible apply lm_wA); (first | exact rfl | assumption); omega)
    | ((with_reducible apply lm_wJ); (first | exact rfl | assumption); omega)
    | ((with_reducible apply lm_wB); (first | exact rfl | assumption); omega)
    | ((with_reducible apply lm_sAl); (first | exact rfl | assumption); omega)
    | ((with_reducible apply lm_iW); decide))
    refine lm_sAA rfl r7.2 ?_
    rw [lm_K0, lm_K256]
    refine lm_sCp (u := 0) a7.1 a7.2 (Or.inl rfl) (by decide) (by decide) ?_
    rw [eM]
    repeat (first
    | ((with_reducible apply lm_sI); exact rfl)
    | ((with_reducible apply lm_sR); exact rfl)
    | ((with_reducible apply lm_sS); exact rfl; exact rfl)
    | ((with_reducible apply lm_sL); exact rfl)
    | ((with_reducible apply lm_sP); exact rfl; exact rfl)
    | ((with_reducible apply lm_sPL); exact rfl; exact rfl)
    | ((with_reducible apply lm_sAA); exact rfl; exact rfl)
    | ((with_reducible apply lm_sA); (first | exact rfl | assumption); omega)
    | ((with_reducible apply lm_sJ); (first | exact rfl | assumption); omega)
    | ((with_reducible apply lm_sB); (first | exact rfl | assumption); omega)
    | ((with_reducible apply lm_wA); (first | exact rfl | assumption); omega)
    | ((with_reducible apply lm_wJ); (first | exact rfl | assumption); omega)
    | ((with_reducible apply lm_wB); (first | exact rfl | assumption); omega)
    | ((with_reducible apply lm_sAl); (first | exact rfl | assumption); omega)
    | ((with_reducible apply lm_iW); decide))
    refine lm_sAA rfl r7.2 ?_
    repeat (first
    | ((with_reducible apply lm_sI); exact rfl)
    | ((with_reducible apply lm_sR); exact rfl)
    | ((with_reducible apply lm_sS); exact rfl; exact rfl)
    | ((with_reducible apply lm_sL); exact rfl)
    | ((with_reducible apply lm_sP); exact rfl; exact rfl)
    | ((with_reducible apply lm_sPL); exact rfl; exact rfl)
    | ((with_reducible apply lm_sAA); exact rfl; exact rfl)
    | ((with_reducible apply lm_sA); (first | exact rfl | assumption); omega)
    | ((with_reducible apply lm_sJ); (first | exact rfl | assumption); omega)
    | ((with_reducible apply lm_sB); (first | exact rfl | assumption); omega)
    | ((with_reducible apply lm_wA); (first | exact rfl | assumption); omega)
    | ((with_reducible apply lm_wJ); (first | exact rfl | assumption); omega)
    | ((with_reducible apply lm_wB); (first | exact rfl | assumption); omega)
    | ((with_reducible apply lm_sAl); (first | exact rfl | assumption); omega)
    | ((with_reducible apply lm_iW); decide))
    refine lm_cV c3 ?_
    rw [lm_K1, lm_oo]
    exact K
/-- the rows -/
theorem lm_l245b {Y : Nat → Nat → Int} {Am : Nat → Nat → Nat → Int} (hs : s ≤ 2) (h : lm_DC m s) (hz : ∀ k, k < 256 → m 77 k = Int32.ofInt (lm_zd k)) (hA : ∀ i t, i < lm_dk s → t < lm_dl s → ∀ c, c < 256 → m (79 + (i * lm_dl s + t)) c = Int32.ofInt (Am i t c) ∧ 0 ≤ Am i t c ∧ Am i t c ≤ 8380416) (hU : ∀ t, t < lm_dl s → lm_pts m (169 + t) (Y t)) : ∃ m', (∀ r, (r < 177 ∨ 184 < r) → m' r = m r) ∧ (∀ i, i < lm_dk s → ∀ c, c < 256 → m' (177 + i) c = Int32.ofInt (lm_yT Am Y (lm_dl s) i c)) ∧ ∀ R, lm_rn (lm_sc xs) (d + 5) lm_m245.2.2.2.2.1 (lm_reg lm_m245.2.2.2.2.2) (61, [(0, .ref 76), (2, .int (Int32.ofNat (lm_dk s)))], []) (lm_w m' n x) = some R → lm_rn (lm_sc xs) (d + 5) lm_m245.2.2.2.2.1 (lm_reg lm_m245.2.2.2.2.2) (61, [(0, .ref 76), (2, .int (Int32.ofNat 0))], []) (lm_w m n x) = some R := by
  have hkl := lm_dkl hs
  obtain ⟨m', n', ⟨en, h0, h1⟩, k1⟩ := lm_lp (sc := lm_sc xs) (d := d + 5) (b := lm_dk s) (hs := lm_m245.2.2.2.2.1) (code := lm_reg lm_m245.2.2.2.2.2) (x := x) (fr := fun i => (61, [(0, .ref 76), (2, .int (Int32.ofNat i))], [])) (I := fun i m' n' => n' = n ∧ (∀ r, (r < 177 ∨ 184 < r) → m' r = m r) ∧ ∀ i', i' < i → ∀ c, c < 256 → m' (177 + i') c = Int32.ofInt (lm_yT Am Y (lm_dl s) i' c)) (fun i hi m1 n1 ⟨en, h0, h1⟩ => by
    have hil : i * lm_dl s + lm_dl s ≤ 8 * 7 := by
      rw [← Nat.succ_mul]
      exact Nat.mul_le_mul (by omega) hkl.2.1
    have e76 : m1 76 = m 76 := h0 76 (by omega)
    obtain ⟨m2, c2, p2⟩ := lm_u237 (sc := lm_sc xs) (d := d + 4) (m := m1) (n := n1) (x := x) (l := lm_dl s) (i := i) (p := 177 + i) (x2 := 168) (pl := 169) (A := Am i) (V := fun t c => (m (169 + t) c).toInt) (u := 3) (rs := [170, 171, 172, 173, 174, 175, 176]) (lm_arW8 i (by omega)) (by rw [e76]; exact h.2.2) hkl.2.1 (by omega) (by omega) (by omega) rfl (fun t ht => (lm_roM7 t (by omega)).2) (fun t ht => (lm_arM7 t (by omega)).2) (fun t ht c hc => by rw [h0 _ (by omega)]; exact (hA i t hi ht c hc).1) (fun t ht c hc => by rw [h0 _ (by omega), Int32.ofInt_toInt]) (fun t ht c hc => by have := hA i t hi ht c hc; omega) (fun t ht c hc => (hU t ht c hc).2)
    obtain ⟨m3, c3, p3⟩ := lm_u238 (sc := lm_sc xs) (d := d + 3) (m := m2) (n := n1) (x := x) (p := 177 + i) (G := fun j => (lm_mr (Am i) (fun t c => (m (169 + t) c).toInt) (lm_dl s) j).tmod 8380417) (lm_arW8 i (by omega)) (by omega) (fun k hk => by rw [p2.1 77 (by omega), h0 77 (by omega)]; exact hz k hk) (fun c hc => by
      have := lm_tmb (a := lm_mr (Am i) (fun t c => (m (169 + t) c).toInt) (lm_dl s) c) (show (0 : Int) < 8380417 by decide)
      show -8380416 ≤ (lm_mr (Am i) (fun t c => (m (169 + t) c).toInt) (lm_dl s) c).tmod 8380417 ∧ (lm_mr (Am i) (fun t c => (m (169 + t) c).toInt) (lm_dl s) c).tmod 8380417 ≤ 8380416
      omega) p2.2
    have eT : ∀ c, c < 256 → m3 (177 + i) c = Int32.ofInt (lm_yT Am Y (lm_dl s) i c) := fun c hc => by
      have e2 : lm_ut (fun j => (lm_mr (Am i) (fun t c => (m (169 + t) c).toInt) (lm_dl s) j).tmod 8380417) c % 8380417 = lm_yT Am Y (lm_dl s) i c := by
        unfold lm_yT
        refine (lm_ut_cg (fun j hj => ln_cg.tm.tr ?_) c).eq
        unfold lm_mr
        exact lm_sg_cg fun t ht => ln_cg.rf.mu (hU t ht j hj).1
      rw [← e2]
      exact p3.2 c hc
    refine ⟨m3, n1, ⟨en, fun r hr => by rw [p3.1 r (by omega), p2.1 r (by omega), h0 r hr], fun i' hi' c hc => ?_⟩, fun R K => lm_e245_61 ?_⟩
    · by_cases c0 : i' = i
      · subst c0; exact eT c hc
      · rw [p3.1 _ (by omega), p2.1 _ (by omega)]
        exact h1 i' (by omega) c hc
    · clear h1 eT
      unfold lm_q245_61
      repeat (first
    | ((with_reducible apply lm_sI); exact rfl)
    | ((with_reducible apply lm_sR); exact rfl)
    | ((with_reducible apply lm_sS); exact rfl; exact rfl)
    | ((with_reducible apply lm_sL); exact rfl)
    | ((with_reducible apply lm_sP); exact rfl; exact rfl)
    | ((with_reducible apply lm_sPL); exact rfl; exact rfl)
    | ((with_reducible apply lm_sAA); exact rfl; exact rfl)
    | ((with_reducible apply lm_sA); (first | exact rfl | assumption); omega)
    | ((with_reducible apply lm_sJ); (first | exact rfl | assumption); omega)
    | ((with_reducible apply lm_sB); (first | exact rfl | assumption); omega)
    | ((with_reducible apply lm_wA); (first | exact rfl | assumption); omega)
    | ((with_reducible apply lm_wJ); (first | exact rfl | assumption); omega)
    | ((with_reducible apply lm_wB); (first | exact rfl | assumption); omega)
    | ((with_reducible apply lm_sAl); (first | exact rfl | assumption); omega)
    | ((with_reducible apply lm_iW); decide))
      simp only [Nat.reduceDiv, Nat.reduceMod]
      rw [e76, h.2.1]
      refine lm_geF (by omega) (by omega) (by omega) ?_
      repeat (first
    | ((with_reducible apply lm_sI); exact rfl)
    | ((with_reducible apply lm_sR); exact rfl)
    | ((with_reducible apply lm_sS); exact rfl; exact rfl)
    | ((with_reducible apply lm_sL); exact rfl)
    | ((with_reducible apply lm_sP); exact rfl; exact rfl)
    | ((with_reducible apply lm_sPL); exact rfl; exact rfl)
    | ((with_reducible apply lm_sAA); exact rfl; exact rfl)
    | ((with_reducible apply lm_sA); (first | exact rfl | assumption); omega)
    | ((with_reducible apply lm_sJ); (first | exact rfl | assumption); omega)
    | ((with_reducible apply lm_sB); (first | exact rfl | assumption); omega)
    | ((with_reducible apply lm_wA); (first | exact rfl | assumption); omega)
    | ((with_reducible apply lm_wJ); (first | exact rfl | assumption); omega)
    | ((with_reducible apply lm_wB); (first | exact rfl | assumption); omega)
    | ((with_reducible apply lm_sAl); (first | exact rfl | assumption); omega)
    | ((with_reducible apply lm_iW); decide))
      refine lm_sAA rfl (lm_roW8 i (by omega)) ?_
      repeat (first
    | ((with_reducible apply lm_sI); exact rfl)
    | ((with_reducible apply lm_sR); exact rfl)
    | ((with_reducible apply lm_sS); exact rfl; exact rfl)
    | ((with_reducible apply lm_sL); exact rfl)
    | ((with_reducible apply lm_sP); exact rfl; exact rfl)
    | ((with_reducible apply lm_sPL); exact rfl; exact rfl)
    | ((with_reducible apply lm_sAA); exact rfl; exact rfl)
    | ((with_reducible apply lm_sA); (first | exact rfl | assumption); omega)
    | ((with_reducible apply lm_sJ); (first | exact rfl | assumption); omega)
    | ((with_reducible apply lm_sB); (first | exact rfl | assumption); omega)
    | ((with_reducible apply lm_wA); (first | exact rfl | assumption); omega)
    | ((with_reducible apply lm_wJ); (first | exact rfl | assumption); omega)
    | ((with_reducible apply lm_wB); (first | exact rfl | assumption); omega)
    | ((with_reducible apply lm_sAl); (first | exact rfl | assumption); omega)
    | ((with_reducible apply lm_iW); decide))
      refine lm_cV c2 ?_
      repeat (first
    | ((with_reducible apply lm_sI); exact rfl)
    | ((with_reducible apply lm_sR); exact rfl)
    | ((with_reducible apply lm_sS); exact rfl; exact rfl)
    | ((with_reducible apply lm_sL); exact rfl)
    | ((with_reducible apply lm_sP); exact rfl; exact rfl)
    | ((with_reducible apply lm_sPL); exact rfl; exact rfl)
    | ((with_reducible apply lm_sAA); exact rfl; exact rfl)
    | ((with_reducible apply lm_sA); (first | exact rfl | assumption); omega)
    | ((with_reducible apply lm_sJ); (first | exact rfl | assumption); omega)
    | ((with_reducible apply lm_sB); (first | exact rfl | assumption); omega)
    | ((with_reducible apply lm_wA); (first | exact rfl | assumption); omega)
    | ((with_reducible apply lm_wJ); (first | exact rfl | assumption); omega)
    | ((with_reducible apply lm_wB); (first | exact rfl | assumption); omega)
    | ((with_reducible apply lm_sAl); (first | exact rfl | assumption); omega)
    | ((with_reducible apply lm_iW); decide))
      refine lm_sAA rfl (lm_roW8 i (by omega)) ?_
      repeat (first
    | ((with_reducible apply lm_sI); exact rfl)
    | ((with_reducible apply lm_sR); exact rfl)
    | ((with_reducible apply lm_sS); exact rfl; exact rfl)
    | ((with_reducible apply lm_sL); exact rfl)
    | ((with_reducible apply lm_sP); exact rfl; exact rfl)
    | ((with_reducible apply lm_sPL); exact rfl; exact rfl)
    | ((with_reducible apply lm_sAA); exact rfl; exact rfl)
    | ((with_reducible apply lm_sA); (first | exact rfl | assumption); omega)
    | ((with_reducible apply lm_sJ); (first | exact rfl | assumption); omega)
    | ((with_reducible apply lm_sB); (first | exact rfl | assumption); omega)
    | ((with_reducible apply lm_wA); (first | exact rfl | assumption); omega)
    | ((with_reducible apply lm_wJ); (first | exact rfl | assumption); omega)
    | ((with_reducible apply lm_wB); (first | exact rfl | assumption); omega)
    | ((with_reducible apply lm_sAl); (first | exact rfl | assumption); omega)
    | ((with_reducible apply lm_iW); decide))
      refine lm_cV c3 ?_
      rw [lm_K1, lm_oo]
      exact K) (lm_dk s) 0 (by omega) m n ⟨rfl, fun _ _ => rfl, fun i' hi' => absurd hi' (by omega)⟩
  subst en
  exact ⟨m', h0, h1, k1⟩
/-- the highs are hashed -/
theorem lm_l245c {W : Nat → Nat → Int} {G : Nat → Int32} (hC : lm_Cok xs C) (hs : s ≤ 2) (h : lm_DC m s) (hW : ∀ i, i < lm_dk s → ∀ c, c < 256 → m (177 + i) c = Int32.ofInt (W i c) ∧ 0 ≤ W i c ∧ W i c < 8380417) (hG : ∀ t, G (64 + t) = ln_gp (lm_pkB (fun i c => lm_hi (lm_dg2 s) (W i c)) (lm_hb s)) t) (hS : lm_CS m n 12 (lm_MS C 12 G (64 + 32 * lm_hb s * 0))) : ∃ m' n', ((∀ r, (r < 5 ∨ 22 < r) → r ≠ 186 → r ≠ 188 → m' r = m r) ∧ lm_fN m n m' n' ∧ lm_CS m' n' 12 (lm_MS C 12 G (64 + 32 * lm_hb s * lm_dk s))) ∧ ∀ R, lm_rn (lm_sc xs) (d + 5) lm_m245.2.2.2.2.1 (lm_reg lm_m245.2.2.2.2.2) (123, [(0, .ref 76), (2, .ref 5), (3, .int (Int32.ofNat (lm_dk s)))], []) (lm_w m' n' x) = some R → lm_rn (lm_sc xs) (d + 5) lm_m245.2.2.2.2.1 (lm_reg lm_m245.2.2.2.2.2) (123, [(0, .ref 76), (2, .ref 5), (3, .int (Int32.ofNat 0))], []) (lm_w m n x) = some R := by
  have hkl := lm_dkl hs
  refine lm_lp (sc := lm_sc xs) (d := d + 5) (b := lm_dk s) (hs := lm_m245.2.2.2.2.1) (code := lm_reg lm_m245.2.2.2.2.2) (x := x) (fr := fun i => (123, [(0, .ref 76), (2, .ref 5), (3, .int (Int32.ofNat i))], [])) (I := fun i m' n' => (∀ r, (r < 5 ∨ 22 < r) → r ≠ 186 → r ≠ 188 → m' r = m r) ∧ lm_fN m n m' n' ∧ lm_CS m' n' 12 (lm_MS C 12 G (64 + 32 * lm_hb s * i))) (fun i hi m1 n1 ⟨g1, g2, g3⟩ => ?_) (lm_dk s) 0 (by omega) m n ⟨fun _ _ _ _ => rfl, .rf, hS⟩
  have e76 : m1 76 = m 76 := g1 76 (by decide) (by decide) (by decide)
  obtain ⟨m2, n2, c2, f2, gN, s2⟩ := lm_u297 (xs := xs) (C := C) (d := d) (m := m1) (n := n1) (x := x) (s := s) (p := 177 + i) (i := i) (W := W) (G := G) (L := 64 + 32 * lm_hb s * i) hC hs (by rw [e76]; exact h.1) (lm_arW8 i (by omega)) (by omega) (fun c hc => by rw [g1 _ (by omega) (by omega) (by omega)]; exact hW i hi c hc) (fun j hj => by rw [Nat.add_assoc, hG]) g3
  rw [Nat.add_assoc, ← Nat.mul_succ] at s2
  refine ⟨m2, n2, ⟨fun r q1 q2 q3 => by rw [f2 r q1 q2 q3, g1 r q1 q2 q3], g2.tr gN, s2⟩, fun R K => lm_e245_123 ?_⟩
  clear g3 s2 hW
  unfold lm_q245_123
  repeat (first
    | ((with_reducible apply lm_sI); exact rfl)
    | ((with_reducible apply lm_sR); exact rfl)
    | ((with_reducible apply lm_sS); exact rfl; exact rfl)
    | ((with_reducible apply lm_sL); exact rfl)
    | ((with_reducible apply lm_sP); exact rfl; exact rfl)
    | ((with_reducible apply lm_sPL); exact rfl; exact rfl)
    | ((with_reducible apply lm_sAA); exact rfl; exact rfl)
    | ((with_reducible apply lm_sA); (first | exact rfl | assumption); omega)
    | ((with_reducible apply lm_sJ); (first | exact rfl | assumption); omega)
    | ((with_reducible apply lm_sB); (first | exact rfl | assumption); omega)
    | ((with_reducible apply lm_wA); (first | exact rfl | assumption); omega)
    | ((with_reducible apply lm_wJ); (first | exact rfl | assumption); omega)
    | ((with_reducible apply lm_wB); (first | exact rfl | assumption); omega)
    | ((with_reducible apply lm_sAl); (first | exact rfl | assumption); omega)
    | ((with_reducible apply lm_iW); decide))
  simp only [Nat.reduceDiv, Nat.reduceMod]
  rw [e76, h.2.1]
  refine lm_geF (by omega) (by omega) (by omega) ?_
  repeat (first
    | ((with_reducible apply lm_sI); exact rfl)
    | ((with_reducible apply lm_sR); exact rfl)
    | ((with_reducible apply lm_sS); exact rfl; exact rfl)
    | ((with_reducible apply lm_sL); exact rfl)
    | ((with_reducible apply lm_sP); exact rfl; exact rfl)
    | ((with_reducible apply lm_sPL); exact rfl; exact rfl)
    | ((with_reducible apply lm_sAA); exact rfl; exact rfl)
    | ((with_reducible apply lm_sA); (first | exact rfl | assumption); omega)
    | ((with_reducible apply lm_sJ); (first | exact rfl | assumption); omega)
    | ((with_reducible apply lm_sB); (first | exact rfl | assumption); omega)
    | ((with_reducible apply lm_wA); (first | exact rfl | assumption); omega)
    | ((with_reducible apply lm_wJ); (first | exact rfl | assumption); omega)
    | ((with_reducible apply lm_wB); (first | exact rfl | assumption); omega)
    | ((with_reducible apply lm_sAl); (first | exact rfl | assumption); omega)
    | ((with_reducible apply lm_iW); decide))
  refine lm_sAA rfl (lm_roW8 i (by omega)) ?_
  repeat (first
    | ((with_reducible apply lm_sI); exact rfl)
    | ((with_reducible apply lm_sR); exact rfl)
    | ((with_reducible apply lm_sS); exact rfl; exact rfl)
    | ((with_reducible apply lm_sL); exact rfl)
    | ((with_reducible apply lm_sP); exact rfl; exact rfl)
    | ((with_reducible apply lm_sPL); exact rfl; exact rfl)
    | ((with_reducible apply lm_sAA); exact rfl; exact rfl)
    | ((with_reducible apply lm_sA); (first | exact rfl | assumption); omega)
    | ((with_reducible apply lm_sJ); (first | exact rfl | assumption); omega)
    | ((with_reducible apply lm_sB); (first | exact rfl | assumption); omega)
    | ((with_reducible apply lm_wA); (first | exact rfl | assumption); omega)
    | ((with_reducible apply lm_wJ); (first | exact rfl | assumption); omega)
    | ((with_reducible apply lm_wB); (first | exact rfl | assumption); omega)
    | ((with_reducible apply lm_sAl); (first | exact rfl | assumption); omega)
    | ((with_reducible apply lm_iW); decide))
  refine lm_cV c2 ?_
  rw [lm_K1, lm_oo]
  exact K
end LMDY
