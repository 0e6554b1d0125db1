/-! ===== encrypt of the reference ===== -/
/-- the bits of a ciphertext -/
def lm_ctS (C : lm_CX) (P : Nat → Int32) (e k du dv : Nat) (A : Nat → Nat → Nat → Int) (T : Nat → Nat → Int) (b : Nat → Nat) (t : Nat) : Bool := if t < 256 * du * k then lm_ts (lm_Fg (lm_eU C P e k du A)) du t else lm_ts (lm_Fg (lm_eV C P e k dv T b)) dv (t - 256 * du * k)
theorem lm_ctS_ct {C : lm_CX} {P : Nat → Int32} {e k du dv : Nat} {A : Nat → Nat → Nat → Int} {T : Nat → Nat → Int} {b : Nat → Nat} {j : Nat} (hdu : 0 < du) (hdv : 0 < dv) : ln_bv (lm_ctS C P e k du dv A T b) (8 * j) 8 = lm_ct C P e k du dv A T b j := by
  unfold lm_ct
  have hm : 256 * du * k = 8 * (32 * du * k) := by rw [← Nat.mul_assoc, ← Nat.mul_assoc]
  by_cases c : j < 32 * du * k
  · rw [if_pos c, ← lm_pkB_g hdu]
    refine lm_bv_ext fun u hu => ?_
    unfold lm_ctS
    rw [if_pos (by omega)]
  · rw [if_neg c, ← lm_pkB_g hdv]
    refine lm_bv_ext fun u hu => ?_
    unfold lm_ctS
    rw [if_neg (by omega), show 8 * j + u - 256 * du * k = 8 * (j - 32 * du * k) + u by omega]
section LMRX
variable {sc : lm_H} {C : lm_CX} {d k e du dv q v a t w s f z : Nat} {m m0 : lm_MI} {n n0 : lm_ML} {x : lm_H × Nat × Nat} {P : Nat → Int32}
theorem lm_l78a {at' : Int32} (h : lm_RK0 C k e m n) (he : e = 2 ∨ e = 3) (hk : k ≤ 4) (hs : lm_ar s = some (1, z)) (hz : z ≤ 70000) (hsf : f + 32 ≤ z) (hs2 : s = 263) (hP : ∀ i, i < 32 → lm_b8 (m s (f + i)) = lm_b8 (P (32 + i))) : ∃ m' n', lm_I85 C P e m n k m' n' ∧ ∀ R, lm_rn sc (d + 6) lm_m78.2.2.2.2.1 (lm_reg lm_m78.2.2.2.2.2) (3, [(0, .ref 203), (1, .ref q), (2, .int at'), (3, .ref t), (4, .ref s), (5, .int (Int32.ofNat f)), (6, .int (Int32.ofNat k))], []) (lm_w m' n' x) = some R → lm_rn sc (d + 6) lm_m78.2.2.2.2.1 (lm_reg lm_m78.2.2.2.2.2) (3, [(0, .ref 203), (1, .ref q), (2, .int at'), (3, .ref t), (4, .ref s), (5, .int (Int32.ofNat f)), (6, .int (Int32.ofNat 0))], []) (lm_w m n x) = some R := by
  refine lm_lp (sc := sc) (d := d + 6) (b := k) (hs := lm_m78.2.2.2.2.1) (code := lm_reg lm_m78.2.2.2.2.2) (x := x) (fr := fun i => (3, [(0, .ref 203), (1, .ref q), (2, .int at'), (3, .ref t), (4, .ref s), (5, .int (Int32.ofNat f)), (6, .int (Int32.ofNat i))], [])) (I := fun i m' n' => lm_I85 C P e m n i m' n') (fun i hi m1 n1 ⟨g1, g2, g3⟩ => ?_) k 0 (by omega) m n ⟨fun _ _ _ _ _ => rfl, .rf, fun i' hi' => absurd hi' (by omega)⟩
  have h1 : lm_RK0 C k e m1 n1 := h.keep g2 (g1 221 (by decide) (by decide) (by decide) (by decide)) (g1 231 (by decide) (by decide) (by decide) (by decide))
  obtain ⟨m2, n2, m3, n3, c2, c3, f3, gG, f2, v3⟩ := lm_rns (sc := sc) (d := d) (x := x) (p := 233 + i) (num := i) (q := s) (v := z) (a := f) (P := P) h1 he (lm_arF i (by omega)) (by omega) hs hz hsf (by omega) (fun t ht => by rw [g1 s (by omega) (by omega) (by omega) (by omega)]; exact hP t ht)
  refine ⟨m3, n3, ⟨fun r r1 r2 r3 r4 => ?_, g2.tr gG, fun i' hi' c hc => ?_⟩, fun R K => lm_e78_3 ?_⟩
  · rw [f3 r r1 r2 r3 (by omega), g1 r r1 r2 r3 r4]
  · by_cases c0 : i' = i
    · subst c0
      exact v3 c hc
    · rw [f3 (233 + i') (by omega) (by omega) (by omega) (by omega)]
      exact g3 i' (by omega) c hc
  · unfold lm_q78_3
    repeat (first
    | ((with_reducible apply lm_sI); exact rfl)
    | ((with_reducible apply lm_sR); exact rfl)
    | ((with_reducible apply lm_sS); exact rfl; exact rfl)
    | ((with_reducible apply lm_sL); exact rfl)
    | ((with_reducible apply lm_sP); exact rfl; exact rfl)
    | ((with_reducible apply lm_sPL); exact rfl; exact rfl)
    | ((with_reducible apply lm_sAA); exact rfl; exact rfl)
    | ((with_reducible apply lm_sA); (first | exact rfl | assumption); omega)
    | ((with_reducible apply lm_sJ); (first | exact rfl | assumption); omega)
    | ((with_reducible apply lm_sB); (first | exact rfl | assumption); omega)
    | ((with_reducible apply lm_wA); (first | exact rfl | assumption); omega)
    | ((with_reducible apply lm_wJ); (first | exact rfl | assumption); omega)
    | ((with_reducible apply lm_wB); (first | exact rfl | assumption); omega)
    | ((with_reducible apply lm_sAl); (first | exact rfl | assumption); omega)
    | ((with_reducible apply lm_iW); decide))
    simp only [Nat.reduceDiv, Nat.reduceMod]
    rw [h1.2.1]
    refine lm_geF (by omega) (by omega) (by omega) ?_
    repeat (first
    | ((with_reducible apply lm_sI); exact rfl)
    | ((with_reducible apply lm_sR); exact rfl)
    | ((with_reducible apply lm_sS); exact rfl; exact rfl)
    | ((with_reducible apply lm_sL); exact rfl)
    | ((with_reducible apply lm_sP); exact rfl; exact rfl)
    | ((with_reducible apply lm_sPL); exact rfl; exact rfl)
    | ((with_reducible apply lm_sAA); exact rfl; exact rfl)
    | ((with_reducible apply lm_sA); (first | exact rfl | assumption); omega)
    | ((with_reducible apply lm_sJ); (first | exact rfl | assumption); omega)
    | ((with_reducible apply lm_sB); (first | exact rfl | assumption); omega)
    | ((with_reducible apply lm_wA); (first | exact rfl | assumption); omega)
    | ((with_reducible apply lm_wJ); (first | exact rfl | assumption); omega)
    | ((with_reducible apply lm_wB); (first | exact rfl | assumption); omega)
    | ((with_reducible apply lm_sAl); (first | exact rfl | assumption); omega)
    | ((with_reducible apply lm_iW); decide))
    refine lm_sAA rfl (lm_roF i (by omega)) ?_
    repeat (first
    | ((with_reducible apply lm_sI); exact rfl)
    | ((with_reducible apply lm_sR); exact rfl)
    | ((with_reducible apply lm_sS); exact rfl; exact rfl)
    | ((with_reducible apply lm_sL); exact rfl)
    | ((with_reducible apply lm_sP); exact rfl; exact rfl)
    | ((with_reducible apply lm_sPL); exact rfl; exact rfl)
    | ((with_reducible apply lm_sAA); exact rfl; exact rfl)
    | ((with_reducible apply lm_sA); (first | exact rfl | assumption); omega)
    | ((with_reducible apply lm_sJ); (first | exact rfl | assumption); omega)
    | ((with_reducible apply lm_sB); (first | exact rfl | assumption); omega)
    | ((with_reducible apply lm_wA); (first | exact rfl | assumption); omega)
    | ((with_reducible apply lm_wJ); (first | exact rfl | assumption); omega)
    | ((with_reducible apply lm_wB); (first | exact rfl | assumption); omega)
    | ((with_reducible apply lm_sAl); (first | exact rfl | assumption); omega)
    | ((with_reducible apply lm_iW); decide))
    simp only [Nat.reduceDiv, Nat.reduceMod]
    rw [h1.2.2.1]
    refine lm_cV c2 ?_
    repeat (first
    | ((with_reducible apply lm_sI); exact rfl)
    | ((with_reducible apply lm_sR); exact rfl)
    | ((with_reducible apply lm_sS); exact rfl; exact rfl)
    | ((with_reducible apply lm_sL); exact rfl)
    | ((with_reducible apply lm_sP); exact rfl; exact rfl)
    | ((with_reducible apply lm_sPL); exact rfl; exact rfl)
    | ((with_reducible apply lm_sAA); exact rfl; exact rfl)
    | ((with_reducible apply lm_sA); (first | exact rfl | assumption); omega)
    | ((with_reducible apply lm_sJ); (first | exact rfl | assumption); omega)
    | ((with_reducible apply lm_sB); (first | exact rfl | assumption); omega)
    | ((with_reducible apply lm_wA); (first | exact rfl | assumption); omega)
    | ((with_reducible apply lm_wJ); (first | exact rfl | assumption); omega)
    | ((with_reducible apply lm_wB); (first | exact rfl | assumption); omega)
    | ((with_reducible apply lm_sAl); (first | exact rfl | assumption); omega)
    | ((with_reducible apply lm_iW); decide))
    refine lm_sAA rfl (lm_roF i (by omega)) ?_
    repeat (first
    | ((with_reducible apply lm_sI); exact rfl)
    | ((with_reducible apply lm_sR); exact rfl)
    | ((with_reducible apply lm_sS); exact rfl; exact rfl)
    | ((with_reducible apply lm_sL); exact rfl)
    | ((with_reducible apply lm_sP); exact rfl; exact rfl)
    | ((with_reducible apply lm_sPL); exact rfl; exact rfl)
    | ((with_reducible apply lm_sAA); exact rfl; exact rfl)
    | ((with_reducible apply lm_sA); (first | exact rfl | assumption); omega)
    | ((with_reducible apply lm_sJ); (first | exact rfl | assumption); omega)
    | ((with_reducible apply lm_sB); (first | exact rfl | assumption); omega)
    | ((with_reducible apply lm_wA); (first | exact rfl | assumption); omega)
    | ((with_reducible apply lm_wJ); (first | exact rfl | assumption); omega)
    | ((with_reducible apply lm_wB); (first | exact rfl | assumption); omega)
    | ((with_reducible apply lm_sAl); (first | exact rfl | assumption); omega)
    | ((with_reducible apply lm_iW); decide))
    refine lm_cV c3 ?_
    rw [lm_K1, lm_oo]
    exact K
/-- how encrypt ends where a polynomial can't be had -/
def lm_E78 (C : lm_CX) (K : Nat → Int32) (a k : Nat) (m0 : lm_MI) (n0 : lm_ML) (x : lm_H × Nat × Nat) (R : Except Nat lm_R × lm_S) : Prop := ∃ m n, R = (.ok (some (.int (lm_z false))), lm_w m n x) ∧ (∀ r, r ≠ 203 → r ≠ 227 → (r < 243 ∨ 245 < r) → r ≠ 264 → r ≠ 266 → m r = m0 r) ∧ lm_fB m0 n0 m n ∧ ∃ i j, i < k ∧ j < k ∧ (lm_kA C K a i j).1 ≠ 256
def lm_I83 (C : lm_CX) (K : Nat → Int32) (a : Nat) (P : Nat → Int32) (e i : Nat) (m0 : lm_MI) (n0 : lm_ML) (j : Nat) (m : lm_MI) (n : lm_ML) : Prop := (∀ r, r ≠ 203 → r ≠ 227 → r ≠ 243 → r ≠ 244 → m r = m0 r) ∧ lm_fG m0 n0 m n ∧ (∀ j', j' < j → (lm_kA C K a i j').1 = 256) ∧ ∀ c, c < 256 → m 243 c = Int32.ofInt (lm_apr (fun _ => 0) (fun j => lm_kAi C K a i j) (fun j => lm_kS C P 32 e j) j c)
theorem lm_l78b {i : Nat} (h : lm_RK0 C k e m n) (hk : k ≤ 4) (hi : i < k) (hq : lm_ar q = some (1, v)) (hv : v ≤ 70000) (hav : a + 384 * k + 32 ≤ v) (hq2 : q ≠ 203 ∧ q ≠ 227 ∧ q ≠ 243 ∧ q ≠ 244) (hV : ∀ j, j < k → ∀ c, c < 256 → m (233 + j) c = Int32.ofInt (lm_kS C P 32 e j c)) (hS : ∀ c, c < 256 → m 243 c = Int32.ofInt 0) : (∃ m' n', lm_I83 C (m q) (a + 384 * k) P e i m n k m' n' ∧ ∀ R, lm_rn sc (d + 6) lm_m78.2.2.2.2.1 (lm_reg lm_m78.2.2.2.2.2) (83, [(0, .ref 203), (1, .ref q), (2, .int (Int32.ofNat a)), (3, .ref t), (4, .ref s), (5, .int (Int32.ofNat f)), (7, .int (Int32.ofNat i)), (8, .int (Int32.ofNat k))], []) (lm_w m' n' x) = some R → lm_rn sc (d + 6) lm_m78.2.2.2.2.1 (lm_reg lm_m78.2.2.2.2.2) (83, [(0, .ref 203), (1, .ref q), (2, .int (Int32.ofNat a)), (3, .ref t), (4, .ref s), (5, .int (Int32.ofNat f)), (7, .int (Int32.ofNat i)), (8, .int (Int32.ofNat 0))], []) (lm_w m n x) = some R) ∨ ∃ R, lm_E78 C (m q) (a + 384 * k) k m n x R ∧ lm_rn sc (d + 6) lm_m78.2.2.2.2.1 (lm_reg lm_m78.2.2.2.2.2) (83, [(0, .ref 203), (1, .ref q), (2, .int (Int32.ofNat a)), (3, .ref t), (4, .ref s), (5, .int (Int32.ofNat f)), (7, .int (Int32.ofNat i)), (8, .int (Int32.ofNat 0))], []) (lm_w m n x) = some R := by
  refine lm_lpe (sc := sc) (d := d + 6) (b := k) (hs := lm_m78.2.2.2.2.1) (code := lm_reg lm_m78.2.2.2.2.2) (x := x) (fr := fun j => (83, [(0, .ref 203), (1, .ref q), (2, .int (Int32.ofNat a)), (3, .ref t), (4, .ref s), (5, .int (Int32.ofNat f)), (7, .int (Int32.ofNat i)), (8, .int (Int32.ofNat j))], [])) (I := fun j m' n' => lm_I83 C (m q) (a + 384 * k) P e i m n j m' n') (E := lm_E78 C (m q) (a + 384 * k) k m n x) (fun j hj m1 n1 ⟨g1, g2, g3, g4⟩ => ?_) k 0 (by omega) m n ⟨fun _ _ _ _ _ => rfl, .rf, fun j' hj' => absurd hj' (by omega), hS⟩
  have h1 : lm_RK0 C k e m1 n1 := h.keep g2 (g1 221 (by decide) (by decide) (by decide) (by decide)) (g1 231 (by decide) (by decide) (by decide) (by decide))
  have eq1 : m1 q = m q := g1 q hq2.1 hq2.2.1 hq2.2.2.1 hq2.2.2.2
  have pre : ∀ R, lm_bind (lm_asI (lm_cal sc (d + 6) 72 [.ref 203, .ref 244, .ref q, .int (Int32.ofNat (a + 384 * k)), .int (Int32.ofNat i), .int (Int32.ofNat j)])) (fun v14 => lm_if .ne v14 0 (lm_bind (lm_gR 4510 203) fun v15 => lm_bind (lm_aaR sc v15 (Int32.ofInt 10)) fun v16 => lm_bind (lm_gR 4510 203) fun v17 => lm_bind (lm_aaR sc v17 (Int32.ofInt 11)) fun v18 => lm_bind (lm_gR 4510 203) fun v19 => lm_bind (lm_aaR sc v19 (Int32.ofNat j)) fun v20 => lm_bind (lm_sel [(11, 73)] (some (.ref 203))) fun y21 => lm_bind (lm_asV (lm_cal sc (d + 6) y21 [.ref 203, .ref v16, .ref v18, .ref v20])) fun _ => lm_rn sc (d + 6) lm_m78.2.2.2.2.1 (lm_reg lm_m78.2.2.2.2.2) (83, [(0, .ref 203), (1, .ref q), (2, .int (Int32.ofNat a)), (3, .ref t), (4, .ref s), (5, .int (Int32.ofNat f)), (7, .int (Int32.ofNat i)), (8, .int (Int32.ofNat j + Int32.ofInt 1))], [])) (lm_when ((Int32.ofInt 0) = 0 ∨ (Int32.ofInt 0) = 1) inferInstance (lm_ret (some (.int (Int32.ofInt 0)))))) (lm_w m1 n1 x) = some R → lm_rn sc (d + 6) lm_m78.2.2.2.2.1 (lm_reg lm_m78.2.2.2.2.2) (83, [(0, .ref 203), (1, .ref q), (2, .int (Int32.ofNat a)), (3, .ref t), (4, .ref s), (5, .int (Int32.ofNat f)), (7, .int (Int32.ofNat i)), (8, .int (Int32.ofNat j))], []) (lm_w m1 n1 x) = some R := by
    intro R K
    refine lm_e78_83 ?_
    unfold lm_q78_83
    repeat (first
    | ((with_reducible apply lm_sI); exact rfl)
    | ((with_reducible apply lm_sR); exact rfl)
    | ((with_reducible apply lm_sS); exact rfl; exact rfl)
    | ((with_reducible apply lm_sL); exact rfl)
    | ((with_reducible apply lm_sP); exact rfl; exact rfl)
    | ((with_reducible apply lm_sPL); exact rfl; exact rfl)
    | ((with_reducible apply lm_sAA); exact rfl; exact rfl)
    | ((with_reducible apply lm_sA); (first | exact rfl | assumption); omega)
    | ((with_reducible apply lm_sJ); (first | exact rfl | assumption); omega)
    | ((with_reducible apply lm_sB); (first | exact rfl | assumption); omega)
    | ((with_reducible apply lm_wA); (first | exact rfl | assumption); omega)
    | ((with_reducible apply lm_wJ); (first | exact rfl | assumption); omega)
    | ((with_reducible apply lm_wB); (first | exact rfl | assumption); omega)
    | ((with_reducible apply lm_sAl); (first | exact rfl | assumption); omega)
    | ((with_reducible apply lm_iW); decide))
    simp only [Nat.reduceDiv, Nat.reduceMod]
    rw [h1.2.1]
    refine lm_geF (by omega) (by omega) (by omega) ?_
    rw [lm_K11]
    repeat (first
    | ((with_reducible apply lm_sI); exact rfl)
    | ((with_reducible apply lm_sR); exact rfl)
    | ((with_reducible apply lm_sS); exact rfl; exact rfl)
    | ((with_reducible apply lm_sL); exact rfl)
    | ((with_reducible apply lm_sP); exact rfl; exact rfl)
    | ((with_reducible apply lm_sPL); exact rfl; exact rfl)
    | ((with_reducible apply lm_sAA); exact rfl; exact rfl)
    | ((with_reducible apply lm_sA); (first | exact rfl | assumption); omega)
    | ((with_reducible apply lm_sJ); (first | exact rfl | assumption); omega)
    | ((with_reducible apply lm_sB); (first | exact rfl | assumption); omega)
    | ((with_reducible apply lm_wA); (first | exact rfl | assumption); omega)
    | ((with_reducible apply lm_wJ); (first | exact rfl | assumption); omega)
    | ((with_reducible apply lm_wB); (first | exact rfl | assumption); omega)
    | ((with_reducible apply lm_sAl); (first | exact rfl | assumption); omega)
    | ((with_reducible apply lm_iW); decide))
    simp only [Nat.reduceDiv, Nat.reduceMod]
    rw [h1.2.1, lm_K384, lm_om, lm_oo]
    rw [lm_K11] at K
    exact K
  obtain ⟨m2, n2, c2, f2, gG2, v2⟩ := lm_u72 (sc := sc) (d := d + 1) (x := x) (m := m1) (n := n1) (p := 244) (q := q) (v := v) (a := a + 384 * k) (w1 := Int32.ofNat i) (w2 := Int32.ofNat j) h1.1 rfl (by decide) hq hv hav ⟨hq2.1, hq2.2.1⟩
  have ek : lm_sm (lm_B11 C (ln_gs (m1 q) (a + 384 * k) (Int32.ofNat i) (Int32.ofNat j))) 280 = lm_kA C (m q) (a + 384 * k) i j := by
    rw [eq1]
    rfl
  rw [ek] at c2 v2
  clear ek
  by_cases c : (lm_kA C (m q) (a + 384 * k) i j).1 = 256
  · rw [decide_eq_true c] at c2
    have h2 : lm_RK0 C k e m2 n2 := h1.keep gG2 (f2 221 (by decide) (by decide) (by decide)) (f2 231 (by decide) (by decide) (by decide))
    have gr : ∀ r, r ≠ 203 → r ≠ 227 → r ≠ 243 → r ≠ 244 → m2 r = m r := fun r r1 r2 r3 r4 => by rw [f2 r r1 r2 r4, g1 r r1 r2 r3 r4]
    obtain ⟨m3, c3, p3⟩ := lm_u73 (sc := sc) (d := d + 4) (n := n2) (x := x) (m0 := m2) (m := m2) (i0 := 243) (f := 244) (g := 233 + j) (S := lm_apr (fun _ => 0) (fun j => lm_kAi C (m q) (a + 384 * k) i j) (fun j => lm_kS C P 32 e j) j) (F := lm_kAi C (m q) (a + 384 * k) i j) (H := lm_kS C P 32 e j) rfl rfl (lm_arF j (by omega)) (by decide) (by omega) (by decide) (fun t ht => h2.2.2.2 t ht) ⟨fun _ _ => rfl, fun c hc => by rw [f2 243 (by decide) (by decide) (by decide)]; exact g4 c hc⟩ (fun t ht => by rw [v2 t (by rw [c]; exact ht), lm_oN]; rfl) (fun t ht => by rw [gr (233 + j) (by omega) (by omega) (by omega) (by omega)]; exact hV j hj t ht) (lm_apr_rg (fun c _ => by show 0 ≤ (0 : Int) ∧ (0 : Int) ≤ 4095; decide) j) ((lm_kAi_rg c).le (by decide)) (lm_kS_rg.le (by decide))
    refine Or.inl ⟨m3, n2, ⟨fun r r1 r2 r3 r4 => (p3.1 r r3).trans (gr r r1 r2 r3 r4), ?_, fun j' hj' => ?_, p3.2⟩, fun R K => pre R (lm_cI c2 ?_)⟩
    · exact g2.tr (gG2.tr (lm_fG.of (p3.1 203 (by decide))))
    · by_cases ct : j' = j
      · subst ct
        exact c
      · exact g3 j' (by omega)
    · refine lm_iT (show ¬ (1 : Int32) = 0 by decide) ?_
      rw [lm_K10, lm_K11]
      clear v2 c2 c g3
      repeat (first
    | ((with_reducible apply lm_sI); exact rfl)
    | ((with_reducible apply lm_sR); exact rfl)
    | ((with_reducible apply lm_sS); exact rfl; exact rfl)
    | ((with_reducible apply lm_sL); exact rfl)
    | ((with_reducible apply lm_sP); exact rfl; exact rfl)
    | ((with_reducible apply lm_sPL); exact rfl; exact rfl)
    | ((with_reducible apply lm_sAA); exact rfl; exact rfl)
    | ((with_reducible apply lm_sA); (first | exact rfl | assumption); omega)
    | ((with_reducible apply lm_sJ); (first | exact rfl | assumption); omega)
    | ((with_reducible apply lm_sB); (first | exact rfl | assumption); omega)
    | ((with_reducible apply lm_wA); (first | exact rfl | assumption); omega)
    | ((with_reducible apply lm_wJ); (first | exact rfl | assumption); omega)
    | ((with_reducible apply lm_wB); (first | exact rfl | assumption); omega)
    | ((with_reducible apply lm_sAl); (first | exact rfl | assumption); omega)
    | ((with_reducible apply lm_iW); decide))
      refine lm_sAA rfl (lm_roF j (by omega)) ?_
      repeat (first
    | ((with_reducible apply lm_sI); exact rfl)
    | ((with_reducible apply lm_sR); exact rfl)
    | ((with_reducible apply lm_sS); exact rfl; exact rfl)
    | ((with_reducible apply lm_sL); exact rfl)
    | ((with_reducible apply lm_sP); exact rfl; exact rfl)
    | ((with_reducible apply lm_sPL); exact rfl; exact rfl)
    | ((with_reducible apply lm_sAA); exact rfl; exact rfl)
    | ((with_reducible apply lm_sA); (first | exact rfl | assumption); omega)
    | ((with_reducible apply lm_sJ); (first | exact rfl | assumption); omega)
    | ((with_reducible apply lm_sB); (first | exact rfl | assumption); omega)
    | ((with_reducible apply lm_wA); (first | exact rfl | assumption); omega)
    | ((with_reducible apply lm_wJ); (first | exact rfl | assumption); omega)
    | ((with_reducible apply lm_wB); (first | exact rfl | assumption); omega)
    | ((with_reducible apply lm_sAl); (first | exact rfl | assumption); omega)
    | ((with_reducible apply lm_iW); decide))
      refine lm_cV c3 ?_
      rw [lm_K1, lm_oo]
      exact K
  · rw [decide_eq_false c] at c2
    refine Or.inr ⟨_, ⟨m2, n2, rfl, fun r r1 r2 r3 r4 r5 => ?_, ?_, i, j, hi, hj, c⟩, pre _ (lm_cI c2 ?_)⟩
    · rw [f2 r r1 r2 (by omega), g1 r r1 r2 (by omega) (by omega)]
    · exact g2.B.tr gG2.B
    · refine lm_iF (show ¬ ¬ (0 : Int32) = 0 by decide) ?_
      refine lm_iW (by decide) ?_
      rfl
end LMRX
