/-! ===== kemKeys of the reference: the loops ===== -/
section LMRL
variable {sc : lm_H} {C : lm_CX} {d k e : Nat} {m m0 : lm_MI} {n n0 : lm_ML} {x : lm_H × Nat × Nat} {P : Nat → Int32}
def lm_I85 (C : lm_CX) (P : Nat → Int32) (e : Nat) (m0 : lm_MI) (n0 : lm_ML) (i : Nat) (m : lm_MI) (n : lm_ML) : Prop := (∀ r, r ≠ 203 → r ≠ 227 → r ≠ 264 → (r < 233 ∨ 236 < r) → m r = m0 r) ∧ lm_fG m0 n0 m n ∧ ∀ i', i' < i → ∀ c, c < 256 → m (233 + i') c = Int32.ofInt (lm_kS C P 32 e i' c)
theorem lm_l22a (h : lm_RK0 C k e m n) (he : e = 2 ∨ e = 3) (hk : k ≤ 4) (hP : ∀ i, i < 64 → lm_b8 (m 263 i) = lm_b8 (P i)) : ∃ m' n', lm_I85 C P e m n k m' n' ∧ ∀ R, lm_rn sc (d + 6) lm_m22.2.2.2.2.1 (lm_reg lm_m22.2.2.2.2.2) (85, [(0, .ref 203), (2, .int (Int32.ofNat k))], []) (lm_w m' n' x) = some R → lm_rn sc (d + 6) lm_m22.2.2.2.2.1 (lm_reg lm_m22.2.2.2.2.2) (85, [(0, .ref 203), (2, .int (Int32.ofNat 0))], []) (lm_w m n x) = some R := by
  refine lm_lp (sc := sc) (d := d + 6) (b := k) (hs := lm_m22.2.2.2.2.1) (code := lm_reg lm_m22.2.2.2.2.2) (x := x) (fr := fun i => (85, [(0, .ref 203), (2, .int (Int32.ofNat i))], [])) (I := fun i m' n' => lm_I85 C P e m n i m' n') (fun i hi m1 n1 ⟨g1, g2, g3⟩ => ?_) k 0 (by omega) m n ⟨fun _ _ _ _ _ => rfl, .rf, fun i' hi' => absurd hi' (by omega)⟩
  have h1 : lm_RK0 C k e m1 n1 := h.keep g2 (g1 221 (by decide) (by decide) (by decide) (by decide)) (g1 231 (by decide) (by decide) (by decide) (by decide))
  obtain ⟨m2, n2, m3, n3, c2, c3, f3, gG, f2, v3⟩ := lm_rns (sc := sc) (d := d) (x := x) (p := 233 + i) (num := i) (q := 263) (v := 256) (a := 32) (P := P) h1 he (lm_arF i (by omega)) (by omega) rfl (by decide) (by decide) (by decide) (fun t ht => by rw [g1 263 (by decide) (by decide) (by decide) (by decide)]; exact hP _ (by omega))
  refine ⟨m3, n3, ⟨fun r r1 r2 r3 r4 => ?_, g2.tr gG, fun i' hi' c hc => ?_⟩, fun R K => lm_e22_85 ?_⟩
  · rw [f3 r r1 r2 r3 (by omega), g1 r r1 r2 r3 r4]
  · by_cases c0 : i' = i
    · subst c0
      exact v3 c hc
    · rw [f3 (233 + i') (by omega) (by omega) (by omega) (by omega)]
      exact g3 i' (by omega) c hc
  · unfold lm_q22_85
    repeat (first
    | ((with_reducible apply lm_sI); exact rfl)
    | ((with_reducible apply lm_sR); exact rfl)
    | ((with_reducible apply lm_sS); exact rfl; exact rfl)
    | ((with_reducible apply lm_sL); exact rfl)
    | ((with_reducible apply lm_sP); exact rfl; exact rfl)
    | ((with_reducible apply lm_sPL); exact rfl; exact rfl)
    | ((with_reducible apply lm_sAA); exact rfl; exact rfl)
    | ((with_reducible apply lm_sA); (first | exact rfl | assumption); omega)
    | ((with_reducible apply lm_sJ); (first | exact rfl | assumption); omega)
    | ((with_reducible apply lm_sB); (first | exact rfl | assumption); omega)
    | ((with_reducible apply lm_wA); (first | exact rfl | assumption); omega)
    | ((with_reducible apply lm_wJ); (first | exact rfl | assumption); omega)
    | ((with_reducible apply lm_wB); (first | exact rfl | assumption); omega)
    | ((with_reducible apply lm_sAl); (first | exact rfl | assumption); omega)
    | ((with_reducible apply lm_iW); decide))
    simp only [Nat.reduceDiv, Nat.reduceMod]
    rw [h1.2.1]
    refine lm_geF (by omega) (by omega) (by omega) ?_
    repeat (first
    | ((with_reducible apply lm_sI); exact rfl)
    | ((with_reducible apply lm_sR); exact rfl)
    | ((with_reducible apply lm_sS); exact rfl; exact rfl)
    | ((with_reducible apply lm_sL); exact rfl)
    | ((with_reducible apply lm_sP); exact rfl; exact rfl)
    | ((with_reducible apply lm_sPL); exact rfl; exact rfl)
    | ((with_reducible apply lm_sAA); exact rfl; exact rfl)
    | ((with_reducible apply lm_sA); (first | exact rfl | assumption); omega)
    | ((with_reducible apply lm_sJ); (first | exact rfl | assumption); omega)
    | ((with_reducible apply lm_sB); (first | exact rfl | assumption); omega)
    | ((with_reducible apply lm_wA); (first | exact rfl | assumption); omega)
    | ((with_reducible apply lm_wJ); (first | exact rfl | assumption); omega)
    | ((with_reducible apply lm_wB); (first | exact rfl | assumption); omega)
    | ((with_reducible apply lm_sAl); (first | exact rfl | assumption); omega)
    | ((with_reducible apply lm_iW); decide))
    refine lm_sAA rfl (lm_roF i (by omega)) ?_
    repeat (first
    | ((with_reducible apply lm_sI); exact rfl)
    | ((with_reducible apply lm_sR); exact rfl)
    | ((with_reducible apply lm_sS); exact rfl; exact rfl)
    | ((with_reducible apply lm_sL); exact rfl)
    | ((with_reducible apply lm_sP); exact rfl; exact rfl)
    | ((with_reducible apply lm_sPL); exact rfl; exact rfl)
    | ((with_reducible apply lm_sAA); exact rfl; exact rfl)
    | ((with_reducible apply lm_sA); (first | exact rfl | assumption); omega)
    | ((with_reducible apply lm_sJ); (first | exact rfl | assumption); omega)
    | ((with_reducible apply lm_sB); (first | exact rfl | assumption); omega)
    | ((with_reducible apply lm_wA); (first | exact rfl | assumption); omega)
    | ((with_reducible apply lm_wJ); (first | exact rfl | assumption); omega)
    | ((with_reducible apply lm_wB); (first | exact rfl | assumption); omega)
    | ((with_reducible apply lm_sAl); (first | exact rfl | assumption); omega)
    | ((with_reducible apply lm_iW); decide))
    simp only [Nat.reduceDiv, Nat.reduceMod]
    rw [h1.2.2.1, lm_K32]
    refine lm_cV c2 ?_
    repeat (first
    | ((with_reducible apply lm_sI); exact rfl)
    | ((with_reducible apply lm_sR); exact rfl)
    | ((with_reducible apply lm_sS); exact rfl; exact rfl)
    | ((with_reducible apply lm_sL); exact rfl)
    | ((with_reducible apply lm_sP); exact rfl; exact rfl)
    | ((with_reducible apply lm_sPL); exact rfl; exact rfl)
    | ((with_reducible apply lm_sAA); exact rfl; exact rfl)
    | ((with_reducible apply lm_sA); (first | exact rfl | assumption); omega)
    | ((with_reducible apply lm_sJ); (first | exact rfl | assumption); omega)
    | ((with_reducible apply lm_sB); (first | exact rfl | assumption); omega)
    | ((with_reducible apply lm_wA); (first | exact rfl | assumption); omega)
    | ((with_reducible apply lm_wJ); (first | exact rfl | assumption); omega)
    | ((with_reducible apply lm_wB); (first | exact rfl | assumption); omega)
    | ((with_reducible apply lm_sAl); (first | exact rfl | assumption); omega)
    | ((with_reducible apply lm_iW); decide))
    refine lm_sAA rfl (lm_roF i (by omega)) ?_
    repeat (first
    | ((with_reducible apply lm_sI); exact rfl)
    | ((with_reducible apply lm_sR); exact rfl)
    | ((with_reducible apply lm_sS); exact rfl; exact rfl)
    | ((with_reducible apply lm_sL); exact rfl)
    | ((with_reducible apply lm_sP); exact rfl; exact rfl)
    | ((with_reducible apply lm_sPL); exact rfl; exact rfl)
    | ((with_reducible apply lm_sAA); exact rfl; exact rfl)
    | ((with_reducible apply lm_sA); (first | exact rfl | assumption); omega)
    | ((with_reducible apply lm_sJ); (first | exact rfl | assumption); omega)
    | ((with_reducible apply lm_sB); (first | exact rfl | assumption); omega)
    | ((with_reducible apply lm_wA); (first | exact rfl | assumption); omega)
    | ((with_reducible apply lm_wJ); (first | exact rfl | assumption); omega)
    | ((with_reducible apply lm_wB); (first | exact rfl | assumption); omega)
    | ((with_reducible apply lm_sAl); (first | exact rfl | assumption); omega)
    | ((with_reducible apply lm_iW); decide))
    refine lm_cV c3 ?_
    rw [lm_K1, lm_oo]
    exact K
/-- how it ends where a polynomial can't be had -/
def lm_E22 (C : lm_CX) (P : Nat → Int32) (k : Nat) (m0 : lm_MI) (n0 : lm_ML) (x : lm_H × Nat × Nat) (R : Except Nat lm_R × lm_S) : Prop := ∃ m n, R = (.ok (some (.int 0)), lm_w m n x) ∧ (∀ r, r ≠ 203 → r ≠ 227 → (r < 243 ∨ 244 < r) → r ≠ 264 → r ≠ 265 → m r = m0 r) ∧ (∀ j, j ≠ 4 → j ≠ 18 → j ≠ 19 → j ≠ 20 → j ≠ 24 → m 203 j = m0 203 j) ∧ (∀ q, q ≠ 203 → q ≠ 223 → q ≠ 224 → q ≠ 225 → q ≠ 226 → q ≠ 230 → n q = n0 q) ∧ m 203 4 = Int32.ofInt 3 ∧ ∃ i j, i < k ∧ j < k ∧ (lm_kA C P 0 j i).1 ≠ 256
def lm_I185 (C : lm_CX) (P : Nat → Int32) (k e i : Nat) (m0 : lm_MI) (n0 : lm_ML) (j : Nat) (m : lm_MI) (n : lm_ML) : Prop := (∀ r, r ≠ 203 → r ≠ 227 → r ≠ 243 → r ≠ 244 → m r = m0 r) ∧ lm_fG m0 n0 m n ∧ (∀ j', j' < j → (lm_kA C P 0 j' i).1 = 256) ∧ ∀ c, c < 256 → m 243 c = Int32.ofInt (lm_apr (lm_kS C P 32 e (k + i)) (fun j => lm_kAi C P 0 j i) (fun j => lm_kS C P 32 e j) j c)
theorem lm_l22b {i : Nat} (h : lm_RK0 C k e m n) (h4 : m 203 4 = 0) (hk : k ≤ 4) (hi : i < k) (hP : ∀ i, i < 64 → lm_b8 (m 263 i) = lm_b8 (P i)) (hV : ∀ j, j < k → ∀ c, c < 256 → m (233 + j) c = Int32.ofInt (lm_kS C P 32 e j c)) (hS : ∀ c, c < 256 → m 243 c = Int32.ofInt (lm_kS C P 32 e (k + i) c)) : (∃ m' n', lm_I185 C P k e i m n k m' n' ∧ ∀ R, lm_rn sc (d + 6) lm_m22.2.2.2.2.1 (lm_reg lm_m22.2.2.2.2.2) (185, [(0, .ref 203), (2, .int (Int32.ofNat i)), (3, .int (Int32.ofNat k))], []) (lm_w m' n' x) = some R → lm_rn sc (d + 6) lm_m22.2.2.2.2.1 (lm_reg lm_m22.2.2.2.2.2) (185, [(0, .ref 203), (2, .int (Int32.ofNat i)), (3, .int (Int32.ofNat 0))], []) (lm_w m n x) = some R) ∨ ∃ R, lm_E22 C P k m n x R ∧ lm_rn sc (d + 6) lm_m22.2.2.2.2.1 (lm_reg lm_m22.2.2.2.2.2) (185, [(0, .ref 203), (2, .int (Int32.ofNat i)), (3, .int (Int32.ofNat 0))], []) (lm_w m n x) = some R := by
  refine lm_lpe (sc := sc) (d := d + 6) (b := k) (hs := lm_m22.2.2.2.2.1) (code := lm_reg lm_m22.2.2.2.2.2) (x := x) (fr := fun j => (185, [(0, .ref 203), (2, .int (Int32.ofNat i)), (3, .int (Int32.ofNat j))], [])) (I := fun j m' n' => lm_I185 C P k e i m n j m' n') (E := lm_E22 C P k m n x) (fun j hj m1 n1 ⟨g1, g2, g3, g4⟩ => ?_) k 0 (by omega) m n ⟨fun _ _ _ _ _ => rfl, .rf, fun j' hj' => absurd hj' (by omega), hS⟩
  have h1 : lm_RK0 C k e m1 n1 := h.keep g2 (g1 221 (by decide) (by decide) (by decide) (by decide)) (g1 231 (by decide) (by decide) (by decide) (by decide))
  have h41 : m1 203 4 = 0 := (g2.1 4 (by decide) (by decide) (by decide)).trans h4
  have pre : ∀ R, lm_bind (lm_asI (lm_cal sc (d + 6) 72 [.ref 203, .ref 244, .ref 263, .int (Int32.ofNat 0), .int (Int32.ofNat j), .int (Int32.ofNat i)])) (fun v6 => lm_bind (lm_sel [(11, 49)] (some (.ref 203))) fun y7 => lm_bind (lm_asI (lm_cal sc (d + 6) y7 [.ref 203, .int v6, .int (Int32.ofInt 3)])) fun v8 => lm_if .ne v8 0 (lm_bind (lm_gR 4510 203) fun v9 => lm_bind (lm_aaR sc v9 (Int32.ofInt 10)) fun v10 => lm_bind (lm_gR 4510 203) fun v11 => lm_bind (lm_aaR sc v11 (Int32.ofInt 11)) fun v12 => lm_bind (lm_gR 4510 203) fun v13 => lm_bind (lm_aaR sc v13 (Int32.ofNat j)) fun v14 => lm_bind (lm_sel [(11, 73)] (some (.ref 203))) fun y15 => lm_bind (lm_asV (lm_cal sc (d + 6) y15 [.ref 203, .ref v10, .ref v12, .ref v14])) fun _ => lm_rn sc (d + 6) lm_m22.2.2.2.2.1 (lm_reg lm_m22.2.2.2.2.2) (185, [(0, .ref 203), (2, .int (Int32.ofNat i)), (3, .int (Int32.ofNat j + Int32.ofInt 1))], [])) (lm_ret (some (.int (Int32.ofInt 0))))) (lm_w m1 n1 x) = some R → lm_rn sc (d + 6) lm_m22.2.2.2.2.1 (lm_reg lm_m22.2.2.2.2.2) (185, [(0, .ref 203), (2, .int (Int32.ofNat i)), (3, .int (Int32.ofNat j))], []) (lm_w m1 n1 x) = some R := by
    intro R K
    refine lm_e22_185 ?_
    unfold lm_q22_185
    repeat (first
    | ((with_reducible apply lm_sI); exact rfl)
    | ((with_reducible apply lm_sR); exact rfl)
    | ((with_reducible apply lm_sS); exact rfl; exact rfl)
    | ((with_reducible apply lm_sL); exact rfl)
    | ((with_reducible apply lm_sP); exact rfl; exact rfl)
    | ((with_reducible apply lm_sPL); exact rfl; exact rfl)
    | ((with_reducible apply lm_sAA); exact rfl; exact rfl)
    | ((with_reducible apply lm_sA); (first | exact rfl | assumption); omega)
    | ((with_reducible apply lm_sJ); (first | exact rfl | assumption); omega)
    | ((with_reducible apply lm_sB); (first | exact rfl | assumption); omega)
    | ((with_reducible apply lm_wA); (first | exact rfl | assumption); omega)
    | ((with_reducible apply lm_wJ); (first | exact rfl | assumption); omega)
    | ((with_reducible apply lm_wB); (first | exact rfl | assumption); omega)
    | ((with_reducible apply lm_sAl); (first | exact rfl | assumption); omega)
    | ((with_reducible apply lm_iW); decide))
    simp only [Nat.reduceDiv, Nat.reduceMod]
    rw [h1.2.1]
    refine lm_geF (by omega) (by omega) (by omega) ?_
    rw [lm_K11, lm_K0]
    repeat (first
    | ((with_reducible apply lm_sI); exact rfl)
    | ((with_reducible apply lm_sR); exact rfl)
    | ((with_reducible apply lm_sS); exact rfl; exact rfl)
    | ((with_reducible apply lm_sL); exact rfl)
    | ((with_reducible apply lm_sP); exact rfl; exact rfl)
    | ((with_reducible apply lm_sPL); exact rfl; exact rfl)
    | ((with_reducible apply lm_sAA); exact rfl; exact rfl)
    | ((with_reducible apply lm_sA); (first | exact rfl | assumption); omega)
    | ((with_reducible apply lm_sJ); (first | exact rfl | assumption); omega)
    | ((with_reducible apply lm_sB); (first | exact rfl | assumption); omega)
    | ((with_reducible apply lm_wA); (first | exact rfl | assumption); omega)
    | ((with_reducible apply lm_wJ); (first | exact rfl | assumption); omega)
    | ((with_reducible apply lm_wB); (first | exact rfl | assumption); omega)
    | ((with_reducible apply lm_sAl); (first | exact rfl | assumption); omega)
    | ((with_reducible apply lm_iW); decide))
    rw [lm_K11, lm_K0] at K
    exact K
  obtain ⟨m2, n2, c2, f2, gG2, v2⟩ := lm_u72 (sc := sc) (d := d + 1) (x := x) (m := m1) (n := n1) (p := 244) (q := 263) (v := 256) (a := 0) (w1 := Int32.ofNat j) (w2 := Int32.ofNat i) h1.1 rfl (by decide) rfl (by decide) (by decide) (by decide)
  have ek : lm_sm (lm_B11 C (ln_gs (m1 263) 0 (Int32.ofNat j) (Int32.ofNat i))) 280 = lm_kA C P 0 j i := by
    have : lm_sm (lm_B11 C (ln_gs (m1 263) 0 (Int32.ofNat j) (Int32.ofNat i))) 280 = lm_kA C (m1 263) 0 j i := rfl
    rw [this]
    exact lm_kA_ext fun t ht => by rw [g1 263 (by decide) (by decide) (by decide) (by decide)]; exact hP _ (by omega)
  rw [ek] at c2 v2
  clear ek
  by_cases c : (lm_kA C P 0 j i).1 = 256
  · rw [decide_eq_true c] at c2
    have u49 := lm_u49 (sc := sc) (d := d + 5) (m := m2) (n := n2) (x := x) (k := Int32.ofInt 3) true
    have h42 : m2 203 4 = 0 := (gG2.1 4 (by decide) (by decide) (by decide)).trans h41
    generalize eM : lm_u m2 203 4 (cond true 0 (Int32.ofInt 3)) = M at u49
    have rM : ∀ r, r ≠ 203 → M r = m2 r := fun r hr => by rw [← eM, lm_u_row hr]
    have rM3 : M 203 = m2 203 := by
      funext t
      by_cases ct : t = 4
      · subst ct
        rw [← eM, lm_u_eq, h42]
        rfl
      · rw [← eM, lm_u_ne (fun g => ct g.2)]
    have h2 : lm_RK0 C k e m2 n2 := h1.keep gG2 (f2 221 (by decide) (by decide) (by decide)) (f2 231 (by decide) (by decide) (by decide))
    have gr : ∀ r, r ≠ 203 → r ≠ 227 → r ≠ 243 → r ≠ 244 → M r = m r := fun r r1 r2 r3 r4 => by rw [rM r r1, f2 r r1 r2 r4, g1 r r1 r2 r3 r4]
    obtain ⟨m3, c3, p3⟩ := lm_u73 (sc := sc) (d := d + 4) (n := n2) (x := x) (m0 := M) (m := M) (i0 := 243) (f := 244) (g := 233 + j) (S := lm_apr (lm_kS C P 32 e (k + i)) (fun j => lm_kAi C P 0 j i) (fun j => lm_kS C P 32 e j) j) (F := lm_kAi C P 0 j i) (H := lm_kS C P 32 e j) rfl rfl (lm_arF j (by omega)) (by decide) (by omega) (by decide) (fun t ht => by rw [rM 231 (by decide)]; exact h2.2.2.2 t ht) ⟨fun _ _ => rfl, fun c hc => by rw [rM 243 (by decide), f2 243 (by decide) (by decide) (by decide)]; exact g4 c hc⟩ (fun t ht => by rw [rM 244 (by decide), v2 t (by rw [c]; exact ht), lm_oN]; rfl) (fun t ht => by rw [gr (233 + j) (by omega) (by omega) (by omega) (by omega)]; exact hV j hj t ht) (lm_apr_rg (lm_kS_rg.le (by decide)) j) ((lm_kAi_rg c).le (by decide)) (lm_kS_rg.le (by decide))
    refine Or.inl ⟨m3, n2, ⟨fun r r1 r2 r3 r4 => (p3.1 r r3).trans (gr r r1 r2 r3 r4), ?_, fun j' hj' => ?_, p3.2⟩, fun R K => pre R (lm_cI c2 ?_)⟩
    · exact g2.tr (gG2.tr (lm_fG.of ((p3.1 203 (by decide)).trans rM3)))
    · by_cases ct : j' = j
      · subst ct
        exact c
      · exact g3 j' (by omega)
    · repeat (first
    | ((with_reducible apply lm_sI); exact rfl)
    | ((with_reducible apply lm_sR); exact rfl)
    | ((with_reducible apply lm_sS); exact rfl; exact rfl)
    | ((with_reducible apply lm_sL); exact rfl)
    | ((with_reducible apply lm_sP); exact rfl; exact rfl)
    | ((with_reducible apply lm_sPL); exact rfl; exact rfl)
    | ((with_reducible apply lm_sAA); exact rfl; exact rfl)
    | ((with_reducible apply lm_sA); (first | exact rfl | assumption); omega)
    | ((with_reducible apply lm_sJ); (first | exact rfl | assumption); omega)
    | ((with_reducible apply lm_sB); (first | exact rfl | assumption); omega)
    | ((with_reducible apply lm_wA); (first | exact rfl | assumption); omega)
    | ((with_reducible apply lm_wJ); (first | exact rfl | assumption); omega)
    | ((with_reducible apply lm_wB); (first | exact rfl | assumption); omega)
    | ((with_reducible apply lm_sAl); (first | exact rfl | assumption); omega)
    | ((with_reducible apply lm_iW); decide))
      refine lm_cI u49 ?_
      refine lm_iT (show ¬ (1 : Int32) = 0 by decide) ?_
      rw [lm_K10, lm_K11]
      repeat (first
    | ((with_reducible apply lm_sI); exact rfl)
    | ((with_reducible apply lm_sR); exact rfl)
    | ((with_reducible apply lm_sS); exact rfl; exact rfl)
    | ((with_reducible apply lm_sL); exact rfl)
    | ((with_reducible apply lm_sP); exact rfl; exact rfl)
    | ((with_reducible apply lm_sPL); exact rfl; exact rfl)
    | ((with_reducible apply lm_sAA); exact rfl; exact rfl)
    | ((with_reducible apply lm_sA); (first | exact rfl | assumption); omega)
    | ((with_reducible apply lm_sJ); (first | exact rfl | assumption); omega)
    | ((with_reducible apply lm_sB); (first | exact rfl | assumption); omega)
    | ((with_reducible apply lm_wA); (first | exact rfl | assumption); omega)
    | ((with_reducible apply lm_wJ); (first | exact rfl | assumption); omega)
    | ((with_reducible apply lm_wB); (first | exact rfl | assumption); omega)
    | ((with_reducible apply lm_sAl); (first | exact rfl | assumption); omega)
    | ((with_reducible apply lm_iW); decide))
      refine lm_sAA rfl (lm_roF j (by omega)) ?_
      repeat (first
    | ((with_reducible apply lm_sI); exact rfl)
    | ((with_reducible apply lm_sR); exact rfl)
    | ((with_reducible apply lm_sS); exact rfl; exact rfl)
    | ((with_reducible apply lm_sL); exact rfl)
    | ((with_reducible apply lm_sP); exact rfl; exact rfl)
    | ((with_reducible apply lm_sPL); exact rfl; exact rfl)
    | ((with_reducible apply lm_sAA); exact rfl; exact rfl)
    | ((with_reducible apply lm_sA); (first | exact rfl | assumption); omega)
    | ((with_reducible apply lm_sJ); (first | exact rfl | assumption); omega)
    | ((with_reducible apply lm_sB); (first | exact rfl | assumption); omega)
    | ((with_reducible apply lm_wA); (first | exact rfl | assumption); omega)
    | ((with_reducible apply lm_wJ); (first | exact rfl | assumption); omega)
    | ((with_reducible apply lm_wB); (first | exact rfl | assumption); omega)
    | ((with_reducible apply lm_sAl); (first | exact rfl | assumption); omega)
    | ((with_reducible apply lm_iW); decide))
      refine lm_cV c3 ?_
      rw [lm_K1, lm_oo]
      exact K
  · rw [decide_eq_false c] at c2
    have u49 := lm_u49 (sc := sc) (d := d + 5) (m := m2) (n := n2) (x := x) (k := Int32.ofInt 3) false
    refine Or.inr ⟨_, ⟨lm_u m2 203 4 (Int32.ofInt 3), n2, rfl, fun r r1 r2 r3 r4 r5 => ?_, fun t t1 t2 t3 t4 t5 => ?_, fun q q1 q2 q3 q4 q5 q6 => ?_, lm_u_eq, i, j, hi, hj, c⟩, pre _ (lm_cI c2 ?_)⟩
    · rw [lm_u_row r1, f2 r r1 r2 (by omega), g1 r r1 r2 (by omega) (by omega)]
    · rw [lm_u_ne (fun g => t1 g.2), gG2.1 t t2 t3 t4, g2.1 t t2 t3 t4]
    · rw [gG2.2 q q1 q2 q3 q4 q5 q6, g2.2 q q1 q2 q3 q4 q5 q6]
    · repeat (first
    | ((with_reducible apply lm_sI); exact rfl)
    | ((with_reducible apply lm_sR); exact rfl)
    | ((with_reducible apply lm_sS); exact rfl; exact rfl)
    | ((with_reducible apply lm_sL); exact rfl)
    | ((with_reducible apply lm_sP); exact rfl; exact rfl)
    | ((with_reducible apply lm_sPL); exact rfl; exact rfl)
    | ((with_reducible apply lm_sAA); exact rfl; exact rfl)
    | ((with_reducible apply lm_sA); (first | exact rfl | assumption); omega)
    | ((with_reducible apply lm_sJ); (first | exact rfl | assumption); omega)
    | ((with_reducible apply lm_sB); (first | exact rfl | assumption); omega)
    | ((with_reducible apply lm_wA); (first | exact rfl | assumption); omega)
    | ((with_reducible apply lm_wJ); (first | exact rfl | assumption); omega)
    | ((with_reducible apply lm_wB); (first | exact rfl | assumption); omega)
    | ((with_reducible apply lm_sAl); (first | exact rfl | assumption); omega)
    | ((with_reducible apply lm_iW); decide))
      refine lm_cI u49 ?_
      refine lm_iF (show ¬ ¬ (0 : Int32) = 0 by decide) ?_
      rfl
end LMRL
