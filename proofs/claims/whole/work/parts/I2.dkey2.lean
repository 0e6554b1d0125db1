/-! ===== dsaKeys of the class: the rows ===== -/
theorem lm_ut_cg {F G : Nat → Int} (h : ∀ c, c < 256 → ln_cg 8380417 (F c) (G c)) (j : Nat) : ln_cg 8380417 (lm_ut F j) (lm_ut G j) := by
  unfold lm_ut
  exact ln_cg.mu (lm_sg_cg fun t ht => (h t ht).mu ln_cg.rf) ln_cg.rf
/-- row i of the product -/
def lm_yT (A : Nat → Nat → Nat → Int) (V : Nat → Nat → Int) (l i c : Nat) : Int := lm_ut (fun j => ln_sg l (fun t => A i t j * ln_pt (V t) j)) c % 8380417
theorem lm_yT_b {A : Nat → Nat → Nat → Int} {V : Nat → Nat → Int} {l i c : Nat} : 0 ≤ lm_yT A V l i c ∧ lm_yT A V l i c < 8380417 := ⟨Int.emod_nonneg _ (by decide), Int.emod_lt_of_pos _ (by decide)⟩
/-- the number that is split -/
def lm_yR (A : Nat → Nat → Nat → Int) (V : Nat → Nat → Int) (l i c : Nat) : Nat := lm_tr (lm_yT A V l i) (V (l + i)) c
theorem lm_yR_f {A : Nat → Nat → Nat → Int} {V : Nat → Nat → Int} {l i : Nat} : (fun c => (((lm_tH (lm_yR A V l i c) : Nat) : Int)).toNat) = fun c => lm_tH (lm_tr (lm_yT A V l i) (V (l + i)) c) := by
  funext c
  rw [Int.toNat_natCast]
  unfold lm_yR
  rfl
theorem lm_yR_e {A : Nat → Nat → Nat → Int} {V : Nat → Nat → Int} {l i c : Nat} : lm_yR A V l i c = lm_tr (lm_yT A V l i) (V (l + i)) c := by
  unfold lm_yR
  rfl
section LMDL
variable {xs : List Int32} {C : lm_CX} {d s : Nat} {m m0 : lm_MI} {n n0 : lm_ML} {x : lm_H × Nat × Nat} {V : Nat → Nat → Int} {A : Nat → Nat → Nat → Int} {x4 : Int32}
theorem lm_l166c (hs : s ≤ 2) (h : lm_DC m s) (hz : ∀ k, k < 256 → m 77 k = Int32.ofInt (lm_zd k)) (hV : ∀ t, t < lm_dl s → ∀ c, c < 256 → m (136 + t) c = Int32.ofInt (V t c) ∧ -4 ≤ V t c ∧ V t c ≤ 4) : ∃ m', (∀ r, (r < 136 ∨ 136 + lm_dl s ≤ r) → m' r = m r) ∧ (∀ t, t < lm_dl s → ∀ c, c < 256 → ln_cg 8380417 (m' (136 + t) c).toInt (ln_pt (V t) c) ∧ -100000000 ≤ (m' (136 + t) c).toInt ∧ (m' (136 + t) c).toInt ≤ 100000000) ∧ ∀ R, lm_rn (lm_sc xs) (d + 6) lm_m166.2.2.2.2.1 (lm_reg lm_m166.2.2.2.2.2) (169, [(0, .ref 76), (2, .ref 28), (3, .ref 30), (4, .int x4), (5, .int (Int32.ofNat (lm_dl s)))], []) (lm_w m' n x) = some R → lm_rn (lm_sc xs) (d + 6) lm_m166.2.2.2.2.1 (lm_reg lm_m166.2.2.2.2.2) (169, [(0, .ref 76), (2, .ref 28), (3, .ref 30), (4, .int x4), (5, .int (Int32.ofNat 0))], []) (lm_w m n x) = some R := by
  have hkl := lm_dkl hs
  obtain ⟨m', n', ⟨en, h0, h1⟩, k1⟩ := lm_lp (sc := lm_sc xs) (d := d + 6) (b := lm_dl s) (hs := lm_m166.2.2.2.2.1) (code := lm_reg lm_m166.2.2.2.2.2) (x := x) (fr := fun t => (169, [(0, .ref 76), (2, .ref 28), (3, .ref 30), (4, .int x4), (5, .int (Int32.ofNat t))], [])) (I := fun t m' n' => n' = n ∧ (∀ r, (r < 136 ∨ 136 + t ≤ r) → m' r = m r) ∧ ∀ t', t' < t → ∀ c, c < 256 → ln_cg 8380417 (m' (136 + t') c).toInt (ln_pt (V t') c) ∧ -100000000 ≤ (m' (136 + t') c).toInt ∧ (m' (136 + t') c).toInt ≤ 100000000) (fun t ht m1 n1 ⟨en, h0, h1⟩ => by
    have e76 : m1 76 = m 76 := h0 76 (by omega)
    obtain ⟨m2, U, c2, p2, u2, b2⟩ := lm_u236 (sc := lm_sc xs) (d := d + 5) (m := m1) (n := n1) (x := x) (p := 136 + t) (G := V t) (B := 4) (lm_arS t (by omega)) (by omega) (fun k hk => by rw [h0 77 (by omega)]; exact hz k hk) (by decide) (fun c hc => (hV t ht c hc).2) (fun c hc => by rw [h0 _ (by omega)]; exact (hV t ht c hc).1)
    refine ⟨m2, n1, ⟨en, fun r hr => by rw [p2.1 r (by omega), h0 r (by omega)], fun t' ht' c hc => ?_⟩, fun R K => lm_e166_169 ?_⟩
    · by_cases c0 : t' = t
      · subst c0
        have b := b2 c hc
        rw [p2.2 c hc, lm_iT0 (by omega) (by omega)]
        exact ⟨u2 c hc, by omega, by omega⟩
      · rw [p2.1 _ (by omega)]
        exact h1 t' (by omega) c hc
    · unfold lm_q166_169
      repeat (first
    | ((with_reducible apply lm_sI); exact rfl)
    | ((with_reducible apply lm_sR); exact rfl)
    | ((with_reducible apply lm_sS); exact rfl; exact rfl)
    | ((with_reducible apply lm_sL); exact rfl)
    | ((with_reducible apply lm_sP); exact rfl; exact rfl)
    | ((with_reducible apply lm_sPL); exact rfl; exact rfl)
    | ((with_reducible apply lm_sAA); exact rfl; exact rfl)
    | ((with_reducible apply lm_sA); (first | exact rfl | assumption); omega)
    | ((with_reducible apply lm_sJ); (first | exact rfl | assumption); omega)
    | ((with_reducible apply lm_sB); (first | exact rfl | assumption); omega)
    | ((with_reducible apply lm_wA); (first | exact rfl | assumption); omega)
    | ((with_reducible apply lm_wJ); (first | exact rfl | assumption); omega)
    | ((with_reducible apply lm_wB); (first | exact rfl | assumption); omega)
    | ((with_reducible apply lm_sAl); (first | exact rfl | assumption); omega)
    | ((with_reducible apply lm_iW); decide))
      simp only [Nat.reduceDiv, Nat.reduceMod]
      rw [e76, h.2.2]
      refine lm_geF (by omega) (by omega) (by omega) ?_
      repeat (first
    | ((with_reducible apply lm_sI); exact rfl)
    | ((with_reducible apply lm_sR); exact rfl)
    | ((with_reducible apply lm_sS); exact rfl; exact rfl)
    | ((with_reducible apply lm_sL); exact rfl)
    | ((with_reducible apply lm_sP); exact rfl; exact rfl)
    | ((with_reducible apply lm_sPL); exact rfl; exact rfl)
    | ((with_reducible apply lm_sAA); exact rfl; exact rfl)
    | ((with_reducible apply lm_sA); (first | exact rfl | assumption); omega)
    | ((with_reducible apply lm_sJ); (first | exact rfl | assumption); omega)
    | ((with_reducible apply lm_sB); (first | exact rfl | assumption); omega)
    | ((with_reducible apply lm_wA); (first | exact rfl | assumption); omega)
    | ((with_reducible apply lm_wJ); (first | exact rfl | assumption); omega)
    | ((with_reducible apply lm_wB); (first | exact rfl | assumption); omega)
    | ((with_reducible apply lm_sAl); (first | exact rfl | assumption); omega)
    | ((with_reducible apply lm_iW); decide))
      refine lm_sAA rfl (lm_roS t (by omega)) ?_
      repeat (first
    | ((with_reducible apply lm_sI); exact rfl)
    | ((with_reducible apply lm_sR); exact rfl)
    | ((with_reducible apply lm_sS); exact rfl; exact rfl)
    | ((with_reducible apply lm_sL); exact rfl)
    | ((with_reducible apply lm_sP); exact rfl; exact rfl)
    | ((with_reducible apply lm_sPL); exact rfl; exact rfl)
    | ((with_reducible apply lm_sAA); exact rfl; exact rfl)
    | ((with_reducible apply lm_sA); (first | exact rfl | assumption); omega)
    | ((with_reducible apply lm_sJ); (first | exact rfl | assumption); omega)
    | ((with_reducible apply lm_sB); (first | exact rfl | assumption); omega)
    | ((with_reducible apply lm_wA); (first | exact rfl | assumption); omega)
    | ((with_reducible apply lm_wJ); (first | exact rfl | assumption); omega)
    | ((with_reducible apply lm_wB); (first | exact rfl | assumption); omega)
    | ((with_reducible apply lm_sAl); (first | exact rfl | assumption); omega)
    | ((with_reducible apply lm_iW); decide))
      refine lm_cV c2 ?_
      rw [lm_K1, lm_oo]
      exact K) (lm_dl s) 0 (by omega) m n ⟨rfl, fun _ _ => rfl, fun t' ht' => absurd ht' (by omega)⟩
  subst en
  exact ⟨m', h0, h1, k1⟩
theorem lm_l166d {b1 : Nat} (hs : s ≤ 2) (h : lm_DC m s) (hz : ∀ k, k < 256 → m 77 k = Int32.ofInt (lm_zd k)) (hb1 : b1 ≤ 2048) (hA : ∀ i t, i < lm_dk s → t < lm_dl s → ∀ c, c < 256 → m (79 + (i * lm_dl s + t)) c = Int32.ofInt (A i t c) ∧ 0 ≤ A i t c ∧ A i t c ≤ 8380416) (hU : ∀ t, t < lm_dl s → ∀ c, c < 256 → ln_cg 8380417 (m (136 + t) c).toInt (ln_pt (V t) c) ∧ -100000000 ≤ (m (136 + t) c).toInt ∧ (m (136 + t) c).toInt ≤ 100000000) (hV : ∀ i, i < lm_dk s → ∀ c, c < 256 → m (136 + (lm_dl s + i)) c = Int32.ofInt (V (lm_dl s + i) c) ∧ -4 ≤ V (lm_dl s + i) c ∧ V (lm_dl s + i) c ≤ 4) : ∃ m', (∀ r, r ≠ 29 → r ≠ 31 → r ≠ 186 → r ≠ 187 → (r < 152 ∨ 159 < r) → m' r = m r) ∧ (∀ j, j < 32 → m' 29 j = m 29 j) ∧ (∀ j, j < 320 * lm_dk s → lm_yb (m' 29 (32 + j)) = lm_pkB (fun i c => (lm_tH (lm_yR A V (lm_dl s) i c) : Nat)) 10 j) ∧ (∀ j, j < b1 → m' 31 j = m 31 j) ∧ (∀ j, j < 416 * lm_dk s → lm_yb (m' 31 (b1 + j)) = lm_pkB (fun i c => 4096 - lm_tL (lm_yR A V (lm_dl s) i c)) 13 j) ∧ ∀ R, lm_rn (lm_sc xs) (d + 6) lm_m166.2.2.2.2.1 (lm_reg lm_m166.2.2.2.2.2) (198, [(0, .ref 76), (2, .ref 28), (3, .ref 30), (4, .int (Int32.ofNat (b1 + 416 * lm_dk s))), (5, .int (Int32.ofNat (lm_dk s)))], []) (lm_w m' n x) = some R → lm_rn (lm_sc xs) (d + 6) lm_m166.2.2.2.2.1 (lm_reg lm_m166.2.2.2.2.2) (198, [(0, .ref 76), (2, .ref 28), (3, .ref 30), (4, .int (Int32.ofNat (b1 + 416 * 0))), (5, .int (Int32.ofNat 0))], []) (lm_w m n x) = some R := by
  have hkl := lm_dkl hs
  obtain ⟨m', n', ⟨en, h0, h1, h2, h3, h4⟩, k1⟩ := lm_lp (sc := lm_sc xs) (d := d + 6) (b := lm_dk s) (hs := lm_m166.2.2.2.2.1) (code := lm_reg lm_m166.2.2.2.2.2) (x := x) (fr := fun i => (198, [(0, .ref 76), (2, .ref 28), (3, .ref 30), (4, .int (Int32.ofNat (b1 + 416 * i))), (5, .int (Int32.ofNat i))], [])) (I := fun i m' n' => n' = n ∧ (∀ r, r ≠ 29 → r ≠ 31 → r ≠ 186 → r ≠ 187 → (r < 152 ∨ 159 < r) → m' r = m r) ∧ (∀ j, j < 32 → m' 29 j = m 29 j) ∧ (∀ j, j < 320 * i → lm_yb (m' 29 (32 + j)) = lm_pkB (fun i c => (lm_tH (lm_yR A V (lm_dl s) i c) : Nat)) 10 j) ∧ (∀ j, j < b1 → m' 31 j = m 31 j) ∧ ∀ j, j < 416 * i → lm_yb (m' 31 (b1 + j)) = lm_pkB (fun i c => 4096 - lm_tL (lm_yR A V (lm_dl s) i c)) 13 j) (fun i hi m1 n1 ⟨en, h0, h1, h2, h3, h4⟩ => by
    have hil : i * lm_dl s + lm_dl s ≤ 8 * 7 := by
      rw [← Nat.succ_mul]
      exact Nat.mul_le_mul (by omega) hkl.2.1
    have e76 : m1 76 = m 76 := h0 76 (by decide) (by decide) (by decide) (by decide) (by decide)
    obtain ⟨m2, c2, p2⟩ := lm_u237 (sc := lm_sc xs) (d := d + 5) (m := m1) (n := n1) (x := x) (l := lm_dl s) (i := i) (p := 152 + i) (x2 := 135) (pl := 136) (A := A i) (V := fun t c => (m (136 + t) c).toInt) (u := 3) (rs := [137, 138, 139, 140, 141, 142, 143, 144, 145, 146, 147, 148, 149, 150, 151]) (lm_arT i (by omega)) (by rw [e76]; exact h.2.2) hkl.2.1 (by omega) (by omega) (by omega) rfl (fun t ht => lm_roS t (by omega)) (fun t ht => lm_arS t (by omega)) (fun t ht c hc => by rw [h0 _ (by omega) (by omega) (by omega) (by omega) (by omega)]; exact (hA i t hi ht c hc).1) (fun t ht c hc => by rw [h0 _ (by omega) (by omega) (by omega) (by omega) (by omega), Int32.ofInt_toInt]) (fun t ht c hc => by have := hA i t hi ht c hc; omega) (fun t ht c hc => (hU t ht c hc).2)
    obtain ⟨m3, c3, p3⟩ := lm_u238 (sc := lm_sc xs) (d := d + 4) (m := m2) (n := n1) (x := x) (p := 152 + i) (G := fun j => (lm_mr (A i) (fun t c => (m (136 + t) c).toInt) (lm_dl s) j).tmod 8380417) (lm_arT i (by omega)) (by omega) (fun k hk => by rw [p2.1 77 (by omega), h0 77 (by decide) (by decide) (by decide) (by decide) (by decide)]; exact hz k hk) (fun c hc => by
      have := lm_tmb (a := lm_mr (A i) (fun t c => (m (136 + t) c).toInt) (lm_dl s) c) (show (0 : Int) < 8380417 by decide)
      show -8380416 ≤ (lm_mr (A i) (fun t c => (m (136 + t) c).toInt) (lm_dl s) c).tmod 8380417 ∧ (lm_mr (A i) (fun t c => (m (136 + t) c).toInt) (lm_dl s) c).tmod 8380417 ≤ 8380416
      omega) p2.2
    have eT : ∀ c, c < 256 → m3 (152 + i) c = Int32.ofInt (lm_yT A V (lm_dl s) i c) := fun c hc => by
      have e2 : lm_ut (fun j => (lm_mr (A i) (fun t c => (m (136 + t) c).toInt) (lm_dl s) j).tmod 8380417) c % 8380417 = lm_yT A V (lm_dl s) i c := by
        unfold lm_yT
        refine (lm_ut_cg (fun j hj => ln_cg.tm.tr ?_) c).eq
        unfold lm_mr
        exact lm_sg_cg fun t ht => ln_cg.rf.mu (hU t ht j hj).1
      rw [← e2]
      exact p3.2 c hc
    have r3 : ∀ r, r ≠ 152 + i → m3 r = m1 r := fun r hr => by rw [p3.1 r hr, p2.1 r hr]
    obtain ⟨m4, c4, f4, a4, o4, b4⟩ := lm_u239 (sc := lm_sc xs) (d := d + 4) (n := n1) (x := x) (m := m3) (l := lm_dl s) (i := i) (q := 29) (v := 65536) (T := lm_yT A V (lm_dl s) i) (S := V (lm_dl s + i)) (by rw [r3 76 (by omega), e76]; exact h.2.2) hkl.2.1 (by omega) rfl (by decide) (by decide) (by omega) eT (fun c hc => by rw [r3 _ (by omega), h0 _ (by omega) (by omega) (by omega) (by omega) (by omega)]; exact (hV i hi c hc).1) (fun c hc => by have := lm_yT_b (A := A) (V := V) (l := lm_dl s) (i := i) (c := c); omega) (fun c hc => by have := hV i hi c hc; omega)
    obtain ⟨m5, c5, f5, a5, b5⟩ := lm_u235 (sc := lm_sc xs) (d := d + 4) (n := n1) (x := x) (m := m4) (p := 186) (q := 31) (v := 65536) (a := b1 + 416 * i) (bits := 13) (B := 4096) (V := fun c => lm_tL (lm_yR A V (lm_dl s) i c)) rfl (by decide) (by decide) rfl (by decide) (by decide) (by decide) (by omega) (fun c hc => by
      have := lm_tL_b (lm_yR A V (lm_dl s) i c)
      refine ⟨by rw [lm_yR_e]; exact a4 c hc, by omega, ?_⟩
      rw [show (2 ^ 13 : Nat) = 8192 from rfl]
      omega)
    refine ⟨m5, n1, ⟨en, fun r q1 q2 q3 q4 q5 => by rw [f5 r q4 q2, f4 r q3 (by omega) q1, r3 r (by omega), h0 r q1 q2 q3 q4 q5], fun j hj => ?_, fun j hj => ?_, fun j hj => ?_, fun j hj => ?_⟩, fun R K => lm_e166_198 ?_⟩
    · rw [f5 29 (by decide) (by decide), o4 j (by omega), r3 29 (by omega), h1 j hj]
    · rw [f5 29 (by decide) (by decide)]
      by_cases c0 : j < 320 * i
      · rw [o4 _ (by omega), r3 29 (by omega)]
        exact h2 j c0
      · have := b4 (j - 320 * i) (by omega)
        rw [show 32 + 320 * i + (j - 320 * i) = 32 + j by omega] at this
        rw [this, show lm_pkB (fun i c => ((lm_tH (lm_yR A V (lm_dl s) i c) : Nat) : Int)) 10 j = lm_pkB (fun i c => ((lm_tH (lm_yR A V (lm_dl s) i c) : Nat) : Int)) 10 (32 * 10 * i + (j - 320 * i)) by rw [show 32 * 10 * i + (j - 320 * i) = j by omega], lm_pkB_at (by omega), lm_yR_f]
    · rw [a5 j (by omega), f4 31 (by decide) (by omega) (by decide), r3 31 (by omega), h3 j hj]
    · by_cases c0 : j < 416 * i
      · rw [a5 _ (by omega), f4 31 (by decide) (by omega) (by decide), r3 31 (by omega)]
        exact h4 j c0
      · have := b5 (j - 416 * i) (by omega)
        rw [show b1 + 416 * i + (j - 416 * i) = b1 + j by omega] at this
        rw [this, show lm_pkB (fun i c => 4096 - lm_tL (lm_yR A V (lm_dl s) i c)) 13 j = lm_pkB (fun i c => 4096 - lm_tL (lm_yR A V (lm_dl s) i c)) 13 (32 * 13 * i + (j - 416 * i)) by rw [show 32 * 13 * i + (j - 416 * i) = j by omega], lm_pkB_at (by omega)]
    · unfold lm_q166_198
      repeat (first
    | ((with_reducible apply lm_sI); exact rfl)
    | ((with_reducible apply lm_sR); exact rfl)
    | ((with_reducible apply lm_sS); exact rfl; exact rfl)
    | ((with_reducible apply lm_sL); exact rfl)
    | ((with_reducible apply lm_sP); exact rfl; exact rfl)
    | ((with_reducible apply lm_sPL); exact rfl; exact rfl)
    | ((with_reducible apply lm_sAA); exact rfl; exact rfl)
    | ((with_reducible apply lm_sA); (first | exact rfl | assumption); omega)
    | ((with_reducible apply lm_sJ); (first | exact rfl | assumption); omega)
    | ((with_reducible apply lm_sB); (first | exact rfl | assumption); omega)
    | ((with_reducible apply lm_wA); (first | exact rfl | assumption); omega)
    | ((with_reducible apply lm_wJ); (first | exact rfl | assumption); omega)
    | ((with_reducible apply lm_wB); (first | exact rfl | assumption); omega)
    | ((with_reducible apply lm_sAl); (first | exact rfl | assumption); omega)
    | ((with_reducible apply lm_iW); decide))
      simp only [Nat.reduceDiv, Nat.reduceMod]
      rw [e76, h.2.1]
      refine lm_geF (by omega) (by omega) (by omega) ?_
      repeat (first
    | ((with_reducible apply lm_sI); exact rfl)
    | ((with_reducible apply lm_sR); exact rfl)
    | ((with_reducible apply lm_sS); exact rfl; exact rfl)
    | ((with_reducible apply lm_sL); exact rfl)
    | ((with_reducible apply lm_sP); exact rfl; exact rfl)
    | ((with_reducible apply lm_sPL); exact rfl; exact rfl)
    | ((with_reducible apply lm_sAA); exact rfl; exact rfl)
    | ((with_reducible apply lm_sA); (first | exact rfl | assumption); omega)
    | ((with_reducible apply lm_sJ); (first | exact rfl | assumption); omega)
    | ((with_reducible apply lm_sB); (first | exact rfl | assumption); omega)
    | ((with_reducible apply lm_wA); (first | exact rfl | assumption); omega)
    | ((with_reducible apply lm_wJ); (first | exact rfl | assumption); omega)
    | ((with_reducible apply lm_wB); (first | exact rfl | assumption); omega)
    | ((with_reducible apply lm_sAl); (first | exact rfl | assumption); omega)
    | ((with_reducible apply lm_iW); decide))
      refine lm_sAA rfl (lm_roT i (by omega)) ?_
      repeat (first
    | ((with_reducible apply lm_sI); exact rfl)
    | ((with_reducible apply lm_sR); exact rfl)
    | ((with_reducible apply lm_sS); exact rfl; exact rfl)
    | ((with_reducible apply lm_sL); exact rfl)
    | ((with_reducible apply lm_sP); exact rfl; exact rfl)
    | ((with_reducible apply lm_sPL); exact rfl; exact rfl)
    | ((with_reducible apply lm_sAA); exact rfl; exact rfl)
    | ((with_reducible apply lm_sA); (first | exact rfl | assumption); omega)
    | ((with_reducible apply lm_sJ); (first | exact rfl | assumption); omega)
    | ((with_reducible apply lm_sB); (first | exact rfl | assumption); omega)
    | ((with_reducible apply lm_wA); (first | exact rfl | assumption); omega)
    | ((with_reducible apply lm_wJ); (first | exact rfl | assumption); omega)
    | ((with_reducible apply lm_wB); (first | exact rfl | assumption); omega)
    | ((with_reducible apply lm_sAl); (first | exact rfl | assumption); omega)
    | ((with_reducible apply lm_iW); decide))
      refine lm_cV c2 ?_
      repeat (first
    | ((with_reducible apply lm_sI); exact rfl)
    | ((with_reducible apply lm_sR); exact rfl)
    | ((with_reducible apply lm_sS); exact rfl; exact rfl)
    | ((with_reducible apply lm_sL); exact rfl)
    | ((with_reducible apply lm_sP); exact rfl; exact rfl)
    | ((with_reducible apply lm_sPL); exact rfl; exact rfl)
    | ((with_reducible apply lm_sAA); exact rfl; exact rfl)
    | ((with_reducible apply lm_sA); (first | exact rfl | assumption); omega)
    | ((with_reducible apply lm_sJ); (first | exact rfl | assumption); omega)
    | ((with_reducible apply lm_sB); (first | exact rfl | assumption); omega)
    | ((with_reducible apply lm_wA); (first | exact rfl | assumption); omega)
    | ((with_reducible apply lm_wJ); (first | exact rfl | assumption); omega)
    | ((with_reducible apply lm_wB); (first | exact rfl | assumption); omega)
    | ((with_reducible apply lm_sAl); (first | exact rfl | assumption); omega)
    | ((with_reducible apply lm_iW); decide))
      refine lm_sAA rfl (lm_roT i (by omega)) ?_
      repeat (first
    | ((with_reducible apply lm_sI); exact rfl)
    | ((with_reducible apply lm_sR); exact rfl)
    | ((with_reducible apply lm_sS); exact rfl; exact rfl)
    | ((with_reducible apply lm_sL); exact rfl)
    | ((with_reducible apply lm_sP); exact rfl; exact rfl)
    | ((with_reducible apply lm_sPL); exact rfl; exact rfl)
    | ((with_reducible apply lm_sAA); exact rfl; exact rfl)
    | ((with_reducible apply lm_sA); (first | exact rfl | assumption); omega)
    | ((with_reducible apply lm_sJ); (first | exact rfl | assumption); omega)
    | ((with_reducible apply lm_sB); (first | exact rfl | assumption); omega)
    | ((with_reducible apply lm_wA); (first | exact rfl | assumption); omega)
    | ((with_reducible apply lm_wJ); (first | exact rfl | assumption); omega)
    | ((with_reducible apply lm_wB); (first | exact rfl | assumption); omega)
    | ((with_reducible apply lm_sAl); (first | exact rfl | assumption); omega)
    | ((with_reducible apply lm_iW); decide))
      refine lm_cV c3 ?_
      repeat (first
    | ((with_reducible apply lm_sI); exact rfl)
    | ((with_reducible apply lm_sR); exact rfl)
    | ((with_reducible apply lm_sS); exact rfl; exact rfl)
    | ((with_reducible apply lm_sL); exact rfl)
    | ((with_reducible apply lm_sP); exact rfl; exact rfl)
    | ((with_reducible apply lm_sPL); exact rfl; exact rfl)
    | ((with_reducible apply lm_sAA); exact rfl; exact rfl)
    | ((with_reducible apply lm_sA); (first | exact rfl | assumption); omega)
    | ((with_reducible apply lm_sJ); (first | exact rfl | assumption); omega)
    | ((with_reducible apply lm_sB); (first | exact rfl | assumption); omega)
    | ((with_reducible apply lm_wA); (first | exact rfl | assumption); omega)
    | ((with_reducible apply lm_wJ); (first | exact rfl | assumption); omega)
    | ((with_reducible apply lm_wB); (first | exact rfl | assumption); omega)
    | ((with_reducible apply lm_sAl); (first | exact rfl | assumption); omega)
    | ((with_reducible apply lm_iW); decide))
      refine lm_cV c4 ?_
      rw [lm_K13]
      repeat (first
    | ((with_reducible apply lm_sI); exact rfl)
    | ((with_reducible apply lm_sR); exact rfl)
    | ((with_reducible apply lm_sS); exact rfl; exact rfl)
    | ((with_reducible apply lm_sL); exact rfl)
    | ((with_reducible apply lm_sP); exact rfl; exact rfl)
    | ((with_reducible apply lm_sPL); exact rfl; exact rfl)
    | ((with_reducible apply lm_sAA); exact rfl; exact rfl)
    | ((with_reducible apply lm_sA); (first | exact rfl | assumption); omega)
    | ((with_reducible apply lm_sJ); (first | exact rfl | assumption); omega)
    | ((with_reducible apply lm_sB); (first | exact rfl | assumption); omega)
    | ((with_reducible apply lm_wA); (first | exact rfl | assumption); omega)
    | ((with_reducible apply lm_wJ); (first | exact rfl | assumption); omega)
    | ((with_reducible apply lm_wB); (first | exact rfl | assumption); omega)
    | ((with_reducible apply lm_sAl); (first | exact rfl | assumption); omega)
    | ((with_reducible apply lm_iW); decide))
      refine lm_cV c5 ?_
      rw [show Int32.ofInt 416 = Int32.ofNat 416 from rfl, lm_oo, lm_K1, lm_oo]
      rw [Nat.mul_succ, ← Nat.add_assoc] at K
      exact K) (lm_dk s) 0 (by omega) m n ⟨rfl, fun _ _ _ _ _ _ => rfl, fun _ _ => rfl, fun j hj => absurd hj (by omega), fun _ _ => rfl, fun j hj => absurd hj (by omega)⟩
  subst en
  exact ⟨m', h0, h1, h2, h3, h4, k1⟩
end LMDL
