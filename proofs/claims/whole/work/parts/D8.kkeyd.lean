/-! ===== keys of the class's Kem, second part ===== -/
theorem lm_kA_ext {C : lm_CX} {s s' : Nat → Int32} {a a' w1 w2 : Nat} (h : ∀ i, i < 32 → lm_b8 (s (a + i)) = lm_b8 (s' (a' + i))) : lm_kA C s a w1 w2 = lm_kA C s' a' w1 w2 := by
  unfold lm_kA
  rw [ln_gs_ext h]
theorem lm_kAi_rg {C : lm_CX} {P : Nat → Int32} {a w1 w2 : Nat} (h : (lm_kA C P a w1 w2).1 = 256) : lm_rg 3328 (lm_kAi C P a w1 w2) := fun c hc => by
  unfold lm_kA at h
  have := lm_sm_lt (B := lm_B11 C (ln_gs P a (Int32.ofNat w1) (Int32.ofNat w2))) 280 c (by rw [h]; exact hc)
  unfold lm_kAi lm_kA
  generalize (lm_sm (lm_B11 C (ln_gs P a (Int32.ofNat w1) (Int32.ofNat w2))) 280).2 c = z at *
  omega
theorem lm_rg.bnd {B B' : Int} {G : Nat → Int} (h : lm_rg B G) (hB : B ≤ B') : lm_bnd B' G := fun c hc => by
  have := h c hc
  omega
theorem lm_rg.le {B B' : Int} {G : Nat → Int} (h : lm_rg B G) (hB : B ≤ B') : lm_rg B' G := fun c hc => by
  have := h c hc
  omega
section LMKD
variable {xs : List Int32} {C : lm_CX} {d k e : Nat} {m m0 : lm_MI} {n n0 : lm_ML} {x : lm_H × Nat × Nat} {P R : Nat → Int32}
/-- products of a row of the matrix with the vector, onto the sum -/
theorem lm_l152p {i : Nat} {S : Nat → Int} (h : lm_KP C P k e m0) (hk : k ≤ 4) (hi : i < k) (hA : ∀ j, j < k → (lm_kA C P 0 j i).1 = 256 ∧ ∀ c, c < 256 → m0 (48 + (i * k + j)) c = Int32.ofNat ((lm_kA C P 0 j i).2 c)) (hV : ∀ j, j < k → ∀ c, c < 256 → m0 (65 + j) c = Int32.ofInt (lm_kS C P 32 e j c)) (hS : lm_PA m0 m 69 S) : ∃ m', lm_PA m0 m' 69 (lm_apc S (fun j => lm_kAi C P 0 j i) (fun j => lm_kS C P 32 e j) k) ∧ ∀ R, lm_rn (lm_sc xs) (d + 5) lm_m152.2.2.2.2.1 (lm_reg lm_m152.2.2.2.2.2) (159, [(0, .ref 44), (1, .ref 27), (2, .ref 28), (3, .ref 30), (4, .int (Int32.ofNat i)), (5, .int (Int32.ofNat k))], []) (lm_w m' n x) = some R → lm_rn (lm_sc xs) (d + 5) lm_m152.2.2.2.2.1 (lm_reg lm_m152.2.2.2.2.2) (159, [(0, .ref 44), (1, .ref 27), (2, .ref 28), (3, .ref 30), (4, .int (Int32.ofNat i)), (5, .int (Int32.ofNat 0))], []) (lm_w m n x) = some R := by
  have hik : i * k + k ≤ k * k := by
    rw [← Nat.succ_mul]
    exact Nat.mul_le_mul_right k hi
  have hkk : k * k ≤ 16 := Nat.mul_le_mul hk hk
  obtain ⟨m', n', ⟨en, h1⟩, k1⟩ := lm_lp (sc := lm_sc xs) (d := d + 5) (b := k) (hs := lm_m152.2.2.2.2.1) (code := lm_reg lm_m152.2.2.2.2.2) (x := x) (fr := fun j => (159, [(0, .ref 44), (1, .ref 27), (2, .ref 28), (3, .ref 30), (4, .int (Int32.ofNat i)), (5, .int (Int32.ofNat j))], [])) (I := fun j m' n' => n' = n ∧ lm_PA m0 m' 69 (lm_apc S (fun j => lm_kAi C P 0 j i) (fun j => lm_kS C P 32 e j) j)) (fun j hj m1 n1 ⟨en, h1⟩ => by
    subst en
    obtain ⟨m2, c2, p2⟩ := lm_u220 (sc := lm_sc xs) (d := d + 4) (n := n1) (x := x) (f := 48 + (i * k + j)) (g := 65 + j) (F := lm_kAi C P 0 j i) (H := lm_kS C P 32 e j) (lm_arK _ (by omega)) (lm_arV j (by omega)) (by omega) (by omega) (fun t ht => by rw [h1.1 46 (by decide)]; exact h.2.1.2 t ht) h1 (fun c hc => by rw [h1.1 _ (by omega), (hA j hj).2 c hc, lm_oN]; rfl) (fun c hc => by rw [h1.1 _ (by omega)]; exact hV j hj c hc) ((lm_kAi_rg (hA j hj).1).bnd (by decide)) (lm_kS_rg.bnd (by decide))
    refine ⟨m2, n1, ⟨rfl, p2⟩, fun R K => lm_e152_159 ?_⟩
    have hk1 : m1 44 12 = Int32.ofNat k := by rw [h1.1 44 (by decide)]; exact h.2.2.1
    unfold lm_q152_159
    repeat (first
    | ((with_reducible apply lm_sI); exact rfl)
    | ((with_reducible apply lm_sR); exact rfl)
    | ((with_reducible apply lm_sS); exact rfl; exact rfl)
    | ((with_reducible apply lm_sL); exact rfl)
    | ((with_reducible apply lm_sP); exact rfl; exact rfl)
    | ((with_reducible apply lm_sPL); exact rfl; exact rfl)
    | ((with_reducible apply lm_sAA); exact rfl; exact rfl)
    | ((with_reducible apply lm_sA); (first | exact rfl | assumption); omega)
    | ((with_reducible apply lm_sJ); (first | exact rfl | assumption); omega)
    | ((with_reducible apply lm_sB); (first | exact rfl | assumption); omega)
    | ((with_reducible apply lm_wA); (first | exact rfl | assumption); omega)
    | ((with_reducible apply lm_wJ); (first | exact rfl | assumption); omega)
    | ((with_reducible apply lm_wB); (first | exact rfl | assumption); omega)
    | ((with_reducible apply lm_sAl); (first | exact rfl | assumption); omega)
    | ((with_reducible apply lm_iW); decide))
    simp only [Nat.reduceDiv, Nat.reduceMod]
    rw [hk1]
    refine lm_geF (by omega) (by omega) (by omega) ?_
    repeat (first
    | ((with_reducible apply lm_sI); exact rfl)
    | ((with_reducible apply lm_sR); exact rfl)
    | ((with_reducible apply lm_sS); exact rfl; exact rfl)
    | ((with_reducible apply lm_sL); exact rfl)
    | ((with_reducible apply lm_sP); exact rfl; exact rfl)
    | ((with_reducible apply lm_sPL); exact rfl; exact rfl)
    | ((with_reducible apply lm_sAA); exact rfl; exact rfl)
    | ((with_reducible apply lm_sA); (first | exact rfl | assumption); omega)
    | ((with_reducible apply lm_sJ); (first | exact rfl | assumption); omega)
    | ((with_reducible apply lm_sB); (first | exact rfl | assumption); omega)
    | ((with_reducible apply lm_wA); (first | exact rfl | assumption); omega)
    | ((with_reducible apply lm_wJ); (first | exact rfl | assumption); omega)
    | ((with_reducible apply lm_wB); (first | exact rfl | assumption); omega)
    | ((with_reducible apply lm_sAl); (first | exact rfl | assumption); omega)
    | ((with_reducible apply lm_iW); decide))
    simp only [Nat.reduceDiv, Nat.reduceMod]
    rw [hk1, lm_om, lm_oo]
    refine lm_sAA rfl (lm_roK _ (by omega)) ?_
    repeat (first
    | ((with_reducible apply lm_sI); exact rfl)
    | ((with_reducible apply lm_sR); exact rfl)
    | ((with_reducible apply lm_sS); exact rfl; exact rfl)
    | ((with_reducible apply lm_sL); exact rfl)
    | ((with_reducible apply lm_sP); exact rfl; exact rfl)
    | ((with_reducible apply lm_sPL); exact rfl; exact rfl)
    | ((with_reducible apply lm_sAA); exact rfl; exact rfl)
    | ((with_reducible apply lm_sA); (first | exact rfl | assumption); omega)
    | ((with_reducible apply lm_sJ); (first | exact rfl | assumption); omega)
    | ((with_reducible apply lm_sB); (first | exact rfl | assumption); omega)
    | ((with_reducible apply lm_wA); (first | exact rfl | assumption); omega)
    | ((with_reducible apply lm_wJ); (first | exact rfl | assumption); omega)
    | ((with_reducible apply lm_wB); (first | exact rfl | assumption); omega)
    | ((with_reducible apply lm_sAl); (first | exact rfl | assumption); omega)
    | ((with_reducible apply lm_iW); decide))
    refine lm_sAA rfl (lm_roV j (by omega)) ?_
    repeat (first
    | ((with_reducible apply lm_sI); exact rfl)
    | ((with_reducible apply lm_sR); exact rfl)
    | ((with_reducible apply lm_sS); exact rfl; exact rfl)
    | ((with_reducible apply lm_sL); exact rfl)
    | ((with_reducible apply lm_sP); exact rfl; exact rfl)
    | ((with_reducible apply lm_sPL); exact rfl; exact rfl)
    | ((with_reducible apply lm_sAA); exact rfl; exact rfl)
    | ((with_reducible apply lm_sA); (first | exact rfl | assumption); omega)
    | ((with_reducible apply lm_sJ); (first | exact rfl | assumption); omega)
    | ((with_reducible apply lm_sB); (first | exact rfl | assumption); omega)
    | ((with_reducible apply lm_wA); (first | exact rfl | assumption); omega)
    | ((with_reducible apply lm_wJ); (first | exact rfl | assumption); omega)
    | ((with_reducible apply lm_wB); (first | exact rfl | assumption); omega)
    | ((with_reducible apply lm_sAl); (first | exact rfl | assumption); omega)
    | ((with_reducible apply lm_iW); decide))
    refine lm_cV c2 ?_
    rw [lm_K1, lm_oo]
    exact K) k 0 (by omega) m n ⟨rfl, hS⟩
  subst en
  exact ⟨m', h1, k1⟩
/-- the second loop: T -/
def lm_I120 (C : lm_CX) (P : Nat → Int32) (e k : Nat) (m0 : lm_MI) (n0 : lm_ML) (i : Nat) (m : lm_MI) (n : lm_ML) : Prop := (∀ r, (r < 5 ∨ 22 < r) → r ≠ 71 → r ≠ 72 → r ≠ 69 → r ≠ 29 → m r = m0 r) ∧ lm_fN m0 n0 m n ∧ ∀ j, j < 384 * i → lm_yb (m 29 j) = lm_pkB (ln_kT C P e k) 12 j
theorem lm_l152b (hC : lm_Cok xs C) (h : lm_KP C P k e m) (he : e = 2 ∨ e = 3) (hk : k ≤ 4) (hA : ∀ i j, i < k → j < k → (lm_kA C P 0 j i).1 = 256 ∧ ∀ c, c < 256 → m (48 + (i * k + j)) c = Int32.ofNat ((lm_kA C P 0 j i).2 c)) (hV : ∀ j, j < k → ∀ c, c < 256 → m (65 + j) c = Int32.ofInt (lm_kS C P 32 e j c)) : ∃ m' n', lm_I120 C P e k m n k m' n' ∧ ∀ R, lm_rn (lm_sc xs) (d + 5) lm_m152.2.2.2.2.1 (lm_reg lm_m152.2.2.2.2.2) (120, [(0, .ref 44), (1, .ref 27), (2, .ref 28), (3, .ref 30), (4, .int (Int32.ofNat k))], []) (lm_w m' n' x) = some R → lm_rn (lm_sc xs) (d + 5) lm_m152.2.2.2.2.1 (lm_reg lm_m152.2.2.2.2.2) (120, [(0, .ref 44), (1, .ref 27), (2, .ref 28), (3, .ref 30), (4, .int (Int32.ofNat 0))], []) (lm_w m n x) = some R := by
  refine lm_lp (sc := lm_sc xs) (d := d + 5) (b := k) (hs := lm_m152.2.2.2.2.1) (code := lm_reg lm_m152.2.2.2.2.2) (x := x) (fr := fun i => (120, [(0, .ref 44), (1, .ref 27), (2, .ref 28), (3, .ref 30), (4, .int (Int32.ofNat i))], [])) (I := fun i m' n' => lm_I120 C P e k m n i m' n') (fun i hi m1 n1 ⟨g1, g2, g4⟩ => ?_) k 0 (by omega) m n ⟨fun _ _ _ _ _ _ => rfl, .rf, fun j hj => absurd hj (by omega)⟩
  have h1 : lm_KP C P k e m1 := h.keep (g2.rt h.1) (g1 44 (by decide) (by decide) (by decide) (by decide) (by decide)) (g1 45 (by decide) (by decide) (by decide) (by decide) (by decide)) (g1 46 (by decide) (by decide) (by decide) (by decide) (by decide)) (g1 73 (by decide) (by decide) (by decide) (by decide) (by decide))
  obtain ⟨m2, n2, m3, c2, c3, f3, f2, gN, v3⟩ := lm_kns (xs := xs) (d := d) (n := n1) (x := x) (p := 69) (num := k + i) hC h1 he rfl (by decide)
  have h3 : lm_KP C P k e m3 := h1.keep (gN.rt h1.1) (f3 44 (by decide) (by decide) (by decide) (by decide)) (f3 45 (by decide) (by decide) (by decide) (by decide)) (f3 46 (by decide) (by decide) (by decide) (by decide)) (f3 73 (by decide) (by decide) (by decide) (by decide))
  have hik : i * k + k ≤ k * k := by
    rw [← Nat.succ_mul]
    exact Nat.mul_le_mul_right k hi
  have hkk : k * k ≤ 16 := Nat.mul_le_mul hk hk
  have hAi : ∀ j, j < k → (lm_kA C P 0 j i).1 = 256 ∧ ∀ c, c < 256 → m3 (48 + (i * k + j)) c = Int32.ofNat ((lm_kA C P 0 j i).2 c) := fun j hj => ⟨(hA i j hi hj).1, fun c hc => by
    rw [f3 _ (by omega) (by omega) (by omega) (by omega), g1 _ (by omega) (by omega) (by omega) (by omega) (by omega)]
    exact (hA i j hi hj).2 c hc⟩
  obtain ⟨m5, p5, k5⟩ := lm_l152p (xs := xs) (d := d) (n := n2) (x := x) (S := lm_kS C P 32 e (k + i)) h3 hk hi hAi (fun j hj c hc => by
    rw [f3 _ (by omega) (by omega) (by omega) (by omega), g1 _ (by omega) (by omega) (by omega) (by omega) (by omega)]
    exact hV j hj c hc) ⟨fun _ _ => rfl, v3⟩
  have hbn : lm_bnd 2147483647 (lm_apc (lm_kS C P 32 e (k + i)) (fun j => lm_kAi C P 0 j i) (fun j => lm_kS C P 32 e j) k) := by
    have key : ∀ j : Nat, j ≤ k → lm_bnd (3329 + 40000000 * j) (lm_apc (lm_kS C P 32 e (k + i)) (fun j => lm_kAi C P 0 j i) (fun j => lm_kS C P 32 e j) j) := by
      intro j hj
      have := lm_apc_bnd (S := lm_kS C P 32 e (k + i)) (F := fun j => if j < k then lm_kAi C P 0 j i else fun _ => 0) (H := fun j => lm_kS C P 32 e j) (lm_kS_rg.bnd (by decide)) (fun j => by
        by_cases c : j < k
        · rw [if_pos c]; exact (lm_kAi_rg (hAi j c).1).bnd (by decide)
        · rw [if_neg c]; intro c _; show -4096 ≤ (0 : Int) ∧ (0 : Int) ≤ 4096; decide) (fun j => lm_kS_rg.bnd (by decide)) j
      have e2 : ∀ t, t ≤ k → lm_apc (lm_kS C P 32 e (k + i)) (fun j => if j < k then lm_kAi C P 0 j i else fun _ => 0) (fun j => lm_kS C P 32 e j) t = lm_apc (lm_kS C P 32 e (k + i)) (fun j => lm_kAi C P 0 j i) (fun j => lm_kS C P 32 e j) t := by
        intro t
        induction t with
        | zero => intro _; rfl
        | succ t ih =>
          intro ht
          show lm_ap (lm_apc _ _ _ t) (if t < k then lm_kAi C P 0 t i else fun _ => 0) _ = lm_ap (lm_apc _ _ _ t) _ _
          rw [ih (by omega), if_pos (show t < k by omega)]
      rw [e2 j hj] at this
      exact this
    intro c hc
    have := key k (Nat.le_refl k) c hc
    omega
  obtain ⟨m6, c6, p6⟩ := lm_u221 (sc := lm_sc xs) (d := d + 3) (n := n2) (x := x) (p := 69) rfl p5 hbn
  obtain ⟨m7, c7, p7⟩ := lm_u219 (sc := lm_sc xs) (e := d + 4) (n := n2) (x := x) (m := m6) (p := 69) (q := 29) (v := 65536) (a := 384 * i) (d := 12) (F := fun c => (ln_kT C P e k i c).toNat) rfl rfl (by decide) (by decide) (by decide) (by decide) (by omega) (fun c hc => by rw [p6.2 c hc]; exact lm_e3n)
  refine ⟨m7, n2, ⟨fun r r1 r2 r3 r4 r5 => ?_, ?_, fun j hj => ?_⟩, fun R K => lm_e152_120 ?_⟩
  · rw [p7.1 r r5, p6.1 r r4, f3 r r1 r2 r3 r4, g1 r r1 r2 r3 r4 r5]
  · exact g2.tr (gN.tr ((lm_fN.of (p6.1 11 (by decide)) (p6.1 17 (by decide))).tr (.of (p7.1 11 (by decide)) (p7.1 17 (by decide)))))
  · by_cases c0 : j < 384 * i
    · rw [p7.2.1 j (by omega), p6.1 29 (by decide), f3 29 (by decide) (by decide) (by decide) (by decide)]
      exact g4 j c0
    · have := p7.2.2 (j - 384 * i) (by omega)
      rw [show 384 * i + (j - 384 * i) = j by omega] at this
      rw [this]
      unfold lm_pkB
      rw [show j / (32 * 12) = i by omega, show j % (32 * 12) = j - 384 * i by omega]
  · have e44 : m5 44 = m3 44 := p5.1 44 (by decide)
    clear hA hAi hV
    unfold lm_q152_120
    repeat (first
    | ((with_reducible apply lm_sI); exact rfl)
    | ((with_reducible apply lm_sR); exact rfl)
    | ((with_reducible apply lm_sS); exact rfl; exact rfl)
    | ((with_reducible apply lm_sL); exact rfl)
    | ((with_reducible apply lm_sP); exact rfl; exact rfl)
    | ((with_reducible apply lm_sPL); exact rfl; exact rfl)
    | ((with_reducible apply lm_sAA); exact rfl; exact rfl)
    | ((with_reducible apply lm_sA); (first | exact rfl | assumption); omega)
    | ((with_reducible apply lm_sJ); (first | exact rfl | assumption); omega)
    | ((with_reducible apply lm_sB); (first | exact rfl | assumption); omega)
    | ((with_reducible apply lm_wA); (first | exact rfl | assumption); omega)
    | ((with_reducible apply lm_wJ); (first | exact rfl | assumption); omega)
    | ((with_reducible apply lm_wB); (first | exact rfl | assumption); omega)
    | ((with_reducible apply lm_sAl); (first | exact rfl | assumption); omega)
    | ((with_reducible apply lm_iW); decide))
    simp only [Nat.reduceDiv, Nat.reduceMod]
    rw [h1.2.2.1]
    refine lm_geF (by omega) (by omega) (by omega) ?_
    repeat (first
    | ((with_reducible apply lm_sI); exact rfl)
    | ((with_reducible apply lm_sR); exact rfl)
    | ((with_reducible apply lm_sS); exact rfl; exact rfl)
    | ((with_reducible apply lm_sL); exact rfl)
    | ((with_reducible apply lm_sP); exact rfl; exact rfl)
    | ((with_reducible apply lm_sPL); exact rfl; exact rfl)
    | ((with_reducible apply lm_sAA); exact rfl; exact rfl)
    | ((with_reducible apply lm_sA); (first | exact rfl | assumption); omega)
    | ((with_reducible apply lm_sJ); (first | exact rfl | assumption); omega)
    | ((with_reducible apply lm_sB); (first | exact rfl | assumption); omega)
    | ((with_reducible apply lm_wA); (first | exact rfl | assumption); omega)
    | ((with_reducible apply lm_wJ); (first | exact rfl | assumption); omega)
    | ((with_reducible apply lm_wB); (first | exact rfl | assumption); omega)
    | ((with_reducible apply lm_sAl); (first | exact rfl | assumption); omega)
    | ((with_reducible apply lm_iW); decide))
    simp only [Nat.reduceDiv, Nat.reduceMod]
    rw [h1.2.2.1, h1.2.2.2.1, lm_oo]
    refine lm_cV c2 ?_
    repeat (first
    | ((with_reducible apply lm_sI); exact rfl)
    | ((with_reducible apply lm_sR); exact rfl)
    | ((with_reducible apply lm_sS); exact rfl; exact rfl)
    | ((with_reducible apply lm_sL); exact rfl)
    | ((with_reducible apply lm_sP); exact rfl; exact rfl)
    | ((with_reducible apply lm_sPL); exact rfl; exact rfl)
    | ((with_reducible apply lm_sAA); exact rfl; exact rfl)
    | ((with_reducible apply lm_sA); (first | exact rfl | assumption); omega)
    | ((with_reducible apply lm_sJ); (first | exact rfl | assumption); omega)
    | ((with_reducible apply lm_sB); (first | exact rfl | assumption); omega)
    | ((with_reducible apply lm_wA); (first | exact rfl | assumption); omega)
    | ((with_reducible apply lm_wJ); (first | exact rfl | assumption); omega)
    | ((with_reducible apply lm_wB); (first | exact rfl | assumption); omega)
    | ((with_reducible apply lm_sAl); (first | exact rfl | assumption); omega)
    | ((with_reducible apply lm_iW); decide))
    refine lm_cV c3 ?_
    rw [lm_K0]
    refine k5 R (lm_e152_159 ?_)
    unfold lm_q152_159
    repeat (first
    | ((with_reducible apply lm_sI); exact rfl)
    | ((with_reducible apply lm_sR); exact rfl)
    | ((with_reducible apply lm_sS); exact rfl; exact rfl)
    | ((with_reducible apply lm_sL); exact rfl)
    | ((with_reducible apply lm_sP); exact rfl; exact rfl)
    | ((with_reducible apply lm_sPL); exact rfl; exact rfl)
    | ((with_reducible apply lm_sAA); exact rfl; exact rfl)
    | ((with_reducible apply lm_sA); (first | exact rfl | assumption); omega)
    | ((with_reducible apply lm_sJ); (first | exact rfl | assumption); omega)
    | ((with_reducible apply lm_sB); (first | exact rfl | assumption); omega)
    | ((with_reducible apply lm_wA); (first | exact rfl | assumption); omega)
    | ((with_reducible apply lm_wJ); (first | exact rfl | assumption); omega)
    | ((with_reducible apply lm_wB); (first | exact rfl | assumption); omega)
    | ((with_reducible apply lm_sAl); (first | exact rfl | assumption); omega)
    | ((with_reducible apply lm_iW); decide))
    simp only [Nat.reduceDiv, Nat.reduceMod]
    rw [e44, h3.2.2.1]
    refine lm_geT (by omega) (by omega) (by omega) ?_
    repeat (first
    | ((with_reducible apply lm_sI); exact rfl)
    | ((with_reducible apply lm_sR); exact rfl)
    | ((with_reducible apply lm_sS); exact rfl; exact rfl)
    | ((with_reducible apply lm_sL); exact rfl)
    | ((with_reducible apply lm_sP); exact rfl; exact rfl)
    | ((with_reducible apply lm_sPL); exact rfl; exact rfl)
    | ((with_reducible apply lm_sAA); exact rfl; exact rfl)
    | ((with_reducible apply lm_sA); (first | exact rfl | assumption); omega)
    | ((with_reducible apply lm_sJ); (first | exact rfl | assumption); omega)
    | ((with_reducible apply lm_sB); (first | exact rfl | assumption); omega)
    | ((with_reducible apply lm_wA); (first | exact rfl | assumption); omega)
    | ((with_reducible apply lm_wJ); (first | exact rfl | assumption); omega)
    | ((with_reducible apply lm_wB); (first | exact rfl | assumption); omega)
    | ((with_reducible apply lm_sAl); (first | exact rfl | assumption); omega)
    | ((with_reducible apply lm_iW); decide))
    refine lm_cV c6 ?_
    repeat (first
    | ((with_reducible apply lm_sI); exact rfl)
    | ((with_reducible apply lm_sR); exact rfl)
    | ((with_reducible apply lm_sS); exact rfl; exact rfl)
    | ((with_reducible apply lm_sL); exact rfl)
    | ((with_reducible apply lm_sP); exact rfl; exact rfl)
    | ((with_reducible apply lm_sPL); exact rfl; exact rfl)
    | ((with_reducible apply lm_sAA); exact rfl; exact rfl)
    | ((with_reducible apply lm_sA); (first | exact rfl | assumption); omega)
    | ((with_reducible apply lm_sJ); (first | exact rfl | assumption); omega)
    | ((with_reducible apply lm_sB); (first | exact rfl | assumption); omega)
    | ((with_reducible apply lm_wA); (first | exact rfl | assumption); omega)
    | ((with_reducible apply lm_wJ); (first | exact rfl | assumption); omega)
    | ((with_reducible apply lm_wB); (first | exact rfl | assumption); omega)
    | ((with_reducible apply lm_sAl); (first | exact rfl | assumption); omega)
    | ((with_reducible apply lm_iW); decide))
    rw [lm_K12, lm_K384, lm_om]
    refine lm_cV c7 ?_
    rw [lm_K1, lm_oo]
    exact K
/-- the end: the bytes are put together -/
theorem lm_l152c (hC : lm_Cok xs C) (h : lm_KP C P k e m) (hk : k ≤ 4) (hpb : ∀ j, j < 384 * k → lm_yb (m 29 j) = lm_pkB (ln_kT C P e k) 12 j) (hsc : ∀ j, j < 384 * k → lm_yb (m 31 j) = lm_pkB (fun i => lm_kS C P 32 e i) 12 j) (hR : ∀ t, t < 32 → lm_b8 (m 27 (32 + t)) = lm_b8 (R (32 + t))) : ∃ m' n', lm_rn (lm_sc xs) (d + 5) lm_m152.2.2.2.2.1 (lm_reg lm_m152.2.2.2.2.2) (120, [(0, .ref 44), (1, .ref 27), (2, .ref 28), (3, .ref 30), (4, .int (Int32.ofNat k))], []) (lm_w m n x) = some (.ok none, lm_w m' n' x) ∧ (∀ r, (r < 5 ∨ 22 < r) → r ≠ 28 → r ≠ 29 → r ≠ 30 → r ≠ 31 → m' r = m r) ∧ lm_fN m n m' n' ∧ m' 28 1 = Int32.ofNat (384 * k + 32) ∧ m' 30 1 = Int32.ofNat (768 * k + 96) ∧ (∀ j, j < 384 * k + 32 → lm_yb (m' 29 j) = lm_pub C P e k j) ∧ ∀ j, j < 768 * k + 96 → lm_yb (m' 31 j) = lm_sec C P R e k j := by
  generalize eM1 : lm_cp m 29 (384 * k) 73 0 32 = M1
  have r1 : ∀ r, r ≠ 29 → M1 r = m r := fun r hr => by rw [← eM1, lm_cp_row hr]
  have v29 : ∀ j, j < 384 * k + 32 → lm_yb (M1 29 j) = lm_pub C P e k j := fun j hj => by
    unfold lm_pub
    rw [← eM1, lm_rc]
    by_cases c : j < 384 * k
    · rw [if_neg (by omega), if_pos c]
      exact hpb j c
    · rw [if_pos ⟨rfl, by omega, by omega⟩, if_neg c, Nat.add_zero]
      exact lm_b8_ne (h.2.2.2.2 (j - 384 * k) (by omega))
  generalize eM2 : lm_u M1 28 1 (Int32.ofNat (384 * k + 32)) = M2
  have r2 : ∀ r, r ≠ 28 → M2 r = M1 r := fun r hr => by rw [← eM2, lm_u_row hr]
  generalize eM3 : lm_cp M2 31 (384 * k) 29 0 (384 * k + 32) = M3
  have r3 : ∀ r, r ≠ 31 → M3 r = M2 r := fun r hr => by rw [← eM3, lm_cp_row hr]
  have v29' : ∀ j, j < 384 * k + 32 → lm_yb (M3 29 j) = lm_pub C P e k j := fun j hj => by
    rw [r3 29 (by decide), r2 29 (by decide)]
    exact v29 j hj
  have rt3 : ln_rt M3 := ⟨by rw [r3 11 (by decide), r2 11 (by decide), r1 11 (by decide)]; exact h.1.1, by rw [r3 17 (by decide), r2 17 (by decide), r1 17 (by decide)]; exact h.1.2⟩
  have k3 : M3 44 12 = Int32.ofNat k := by rw [r3 44 (by decide), r2 44 (by decide), r1 44 (by decide)]; exact h.2.2.1
  obtain ⟨m4, n4, c4, f4, g4, a4, b4⟩ := lm_u223 (xs := xs) (d := d) (x := x) (n := n) (m := M3) (k := k) (q := 29) (v := 65536) (a := 0) (p := 31) (w := 65536) (b := 768 * k + 32) (G := ln_gp (lm_pub C P e k)) hC rt3 k3 hk rfl (by decide) (by omega) (by decide) rfl (by decide) (by omega) (by decide) (fun t ht => by
    rw [Nat.zero_add]
    exact lm_gp_yb (v29' t ht) lm_pub_lt)
  generalize eM5 : lm_cp m4 31 (768 * k + 64) 27 32 32 = M5
  have r5 : ∀ r, r ≠ 31 → M5 r = m4 r := fun r hr => by rw [← eM5, lm_cp_row hr]
  have rall : ∀ r, (r < 5 ∨ 22 < r) → r ≠ 28 → r ≠ 29 → r ≠ 31 → M5 r = m r := fun r q1 q2 q3 q4 => by rw [r5 r q4, f4 r q1 q4, r3 r q4, r2 r q2, r1 r q3]
  refine ⟨lm_u M5 30 1 (Int32.ofNat (768 * k + 96)), n4, ?_, fun r q1 q2 q3 q4 q5 => ?_, ?_, ?_, lm_u_eq, fun j hj => ?_, fun j hj => ?_⟩
  rotate_left
  · rw [lm_u_row q4]
    exact rall r q1 q2 q3 q5
  · refine ((lm_fN.of ?_ ?_).tr g4).tr (.of ?_ ?_)
    · rw [r3 11 (by decide), r2 11 (by decide), r1 11 (by decide)]
    · rw [r3 17 (by decide), r2 17 (by decide), r1 17 (by decide)]
    · rw [lm_u_row (by decide), r5 11 (by decide)]
    · rw [lm_u_row (by decide), r5 17 (by decide)]
  · rw [lm_u_row (by decide), r5 28 (by decide), f4 28 (by decide) (by decide), r3 28 (by decide), ← eM2, lm_u_eq]
  · rw [lm_u_row (by decide), r5 29 (by decide), f4 29 (by decide) (by decide)]
    exact v29' j hj
  · rw [lm_u_row (by decide), ← eM5, lm_rc]
    unfold lm_sec
    by_cases c1 : 768 * k + 64 ≤ j
    · rw [if_pos ⟨rfl, by omega, by omega⟩, if_neg (by omega), if_neg (by omega), if_neg (by omega), f4 27 (by decide) (by decide), r3 27 (by decide), r2 27 (by decide), r1 27 (by decide), Nat.add_comm (j - (768 * k + 64)) 32]
      exact lm_b8_ne (hR _ (by omega))
    · rw [if_neg (by omega)]
      by_cases c2 : 768 * k + 32 ≤ j
      · rw [if_neg (by omega), if_neg (by omega), if_pos (by omega)]
        have := b4 (j - (768 * k + 32)) (by omega)
        rw [show 768 * k + 32 + (j - (768 * k + 32)) = j by omega] at this
        rw [this]
      · rw [a4 j (by omega), ← eM3, lm_rc]
        by_cases c3 : 384 * k ≤ j
        · rw [if_pos ⟨rfl, by omega, by omega⟩, if_neg (by omega), if_pos (by omega), Nat.add_zero, r2 29 (by decide)]
          exact v29 _ (by omega)
        · rw [if_neg (by omega), if_pos (by omega), r2 31 (by decide), r1 31 (by decide)]
          exact hsc j (by omega)
  · have u222 : lm_cal (lm_sc xs) (d + 5) 222 [.ref 44] (lm_w M1 n x) = some (.ok (some (.int (Int32.ofNat (384 * k + 32)))), lm_w M1 n x) := by
      refine lm_cal_of (Y := lm_m222) rfl rfl (lm_e222_0 ?_)
      unfold lm_q222_0
      repeat (first
    | ((with_reducible apply lm_sI); exact rfl)
    | ((with_reducible apply lm_sR); exact rfl)
    | ((with_reducible apply lm_sS); exact rfl; exact rfl)
    | ((with_reducible apply lm_sL); exact rfl)
    | ((with_reducible apply lm_sP); exact rfl; exact rfl)
    | ((with_reducible apply lm_sPL); exact rfl; exact rfl)
    | ((with_reducible apply lm_sAA); exact rfl; exact rfl)
    | ((with_reducible apply lm_sA); (first | exact rfl | assumption); omega)
    | ((with_reducible apply lm_sJ); (first | exact rfl | assumption); omega)
    | ((with_reducible apply lm_sB); (first | exact rfl | assumption); omega)
    | ((with_reducible apply lm_wA); (first | exact rfl | assumption); omega)
    | ((with_reducible apply lm_wJ); (first | exact rfl | assumption); omega)
    | ((with_reducible apply lm_wB); (first | exact rfl | assumption); omega)
    | ((with_reducible apply lm_sAl); (first | exact rfl | assumption); omega)
    | ((with_reducible apply lm_iW); decide))
      simp only [Nat.reduceDiv, Nat.reduceMod]
      rw [r1 44 (by decide), h.2.2.1, lm_K384, lm_K32, lm_om, lm_oo]
      rfl
    have k44 : ∀ M : lm_MI, M 44 = m 44 → M 44 12 = Int32.ofNat k := fun M e => by rw [e]; exact h.2.2.1
    have s28 : M2 28 1 = Int32.ofNat (384 * k + 32) := by rw [← eM2, lm_u_eq]
    refine lm_e152_120 ?_
    unfold lm_q152_120
    repeat (first
    | ((with_reducible apply lm_sI); exact rfl)
    | ((with_reducible apply lm_sR); exact rfl)
    | ((with_reducible apply lm_sS); exact rfl; exact rfl)
    | ((with_reducible apply lm_sL); exact rfl)
    | ((with_reducible apply lm_sP); exact rfl; exact rfl)
    | ((with_reducible apply lm_sPL); exact rfl; exact rfl)
    | ((with_reducible apply lm_sAA); exact rfl; exact rfl)
    | ((with_reducible apply lm_sA); (first | exact rfl | assumption); omega)
    | ((with_reducible apply lm_sJ); (first | exact rfl | assumption); omega)
    | ((with_reducible apply lm_sB); (first | exact rfl | assumption); omega)
    | ((with_reducible apply lm_wA); (first | exact rfl | assumption); omega)
    | ((with_reducible apply lm_wJ); (first | exact rfl | assumption); omega)
    | ((with_reducible apply lm_wB); (first | exact rfl | assumption); omega)
    | ((with_reducible apply lm_sAl); (first | exact rfl | assumption); omega)
    | ((with_reducible apply lm_iW); decide))
    simp only [Nat.reduceDiv, Nat.reduceMod]
    rw [h.2.2.1]
    refine lm_geT (by omega) (by omega) (by omega) ?_
    repeat (first
    | ((with_reducible apply lm_sI); exact rfl)
    | ((with_reducible apply lm_sR); exact rfl)
    | ((with_reducible apply lm_sS); exact rfl; exact rfl)
    | ((with_reducible apply lm_sL); exact rfl)
    | ((with_reducible apply lm_sP); exact rfl; exact rfl)
    | ((with_reducible apply lm_sPL); exact rfl; exact rfl)
    | ((with_reducible apply lm_sAA); exact rfl; exact rfl)
    | ((with_reducible apply lm_sA); (first | exact rfl | assumption); omega)
    | ((with_reducible apply lm_sJ); (first | exact rfl | assumption); omega)
    | ((with_reducible apply lm_sB); (first | exact rfl | assumption); omega)
    | ((with_reducible apply lm_wA); (first | exact rfl | assumption); omega)
    | ((with_reducible apply lm_wJ); (first | exact rfl | assumption); omega)
    | ((with_reducible apply lm_wB); (first | exact rfl | assumption); omega)
    | ((with_reducible apply lm_sAl); (first | exact rfl | assumption); omega)
    | ((with_reducible apply lm_iW); decide))
    simp only [Nat.reduceDiv, Nat.reduceMod]
    rw [h.2.2.1, lm_K384, lm_K0, lm_K32, lm_K768, lm_om]
    refine lm_sCp (u := 1) rfl rfl (Or.inr rfl) (by decide) (by omega) ?_
    rw [eM1]
    repeat (first
    | ((with_reducible apply lm_sI); exact rfl)
    | ((with_reducible apply lm_sR); exact rfl)
    | ((with_reducible apply lm_sS); exact rfl; exact rfl)
    | ((with_reducible apply lm_sL); exact rfl)
    | ((with_reducible apply lm_sP); exact rfl; exact rfl)
    | ((with_reducible apply lm_sPL); exact rfl; exact rfl)
    | ((with_reducible apply lm_sAA); exact rfl; exact rfl)
    | ((with_reducible apply lm_sA); (first | exact rfl | assumption); omega)
    | ((with_reducible apply lm_sJ); (first | exact rfl | assumption); omega)
    | ((with_reducible apply lm_sB); (first | exact rfl | assumption); omega)
    | ((with_reducible apply lm_wA); (first | exact rfl | assumption); omega)
    | ((with_reducible apply lm_wJ); (first | exact rfl | assumption); omega)
    | ((with_reducible apply lm_wB); (first | exact rfl | assumption); omega)
    | ((with_reducible apply lm_sAl); (first | exact rfl | assumption); omega)
    | ((with_reducible apply lm_iW); decide))
    refine lm_cI u222 ?_
    repeat (first
    | ((with_reducible apply lm_sI); exact rfl)
    | ((with_reducible apply lm_sR); exact rfl)
    | ((with_reducible apply lm_sS); exact rfl; exact rfl)
    | ((with_reducible apply lm_sL); exact rfl)
    | ((with_reducible apply lm_sP); exact rfl; exact rfl)
    | ((with_reducible apply lm_sPL); exact rfl; exact rfl)
    | ((with_reducible apply lm_sAA); exact rfl; exact rfl)
    | ((with_reducible apply lm_sA); (first | exact rfl | assumption); omega)
    | ((with_reducible apply lm_sJ); (first | exact rfl | assumption); omega)
    | ((with_reducible apply lm_sB); (first | exact rfl | assumption); omega)
    | ((with_reducible apply lm_wA); (first | exact rfl | assumption); omega)
    | ((with_reducible apply lm_wJ); (first | exact rfl | assumption); omega)
    | ((with_reducible apply lm_wB); (first | exact rfl | assumption); omega)
    | ((with_reducible apply lm_sAl); (first | exact rfl | assumption); omega)
    | ((with_reducible apply lm_iW); decide))
    simp only [Nat.reduceDiv, Nat.reduceMod]
    rw [eM2, s28, k44 M2 (by rw [r2 44 (by decide), r1 44 (by decide)]), lm_om]
    refine lm_sCp (u := 1) rfl rfl (Or.inr rfl) (by omega) (by omega) ?_
    rw [eM3]
    repeat (first
    | ((with_reducible apply lm_sI); exact rfl)
    | ((with_reducible apply lm_sR); exact rfl)
    | ((with_reducible apply lm_sS); exact rfl; exact rfl)
    | ((with_reducible apply lm_sL); exact rfl)
    | ((with_reducible apply lm_sP); exact rfl; exact rfl)
    | ((with_reducible apply lm_sPL); exact rfl; exact rfl)
    | ((with_reducible apply lm_sAA); exact rfl; exact rfl)
    | ((with_reducible apply lm_sA); (first | exact rfl | assumption); omega)
    | ((with_reducible apply lm_sJ); (first | exact rfl | assumption); omega)
    | ((with_reducible apply lm_sB); (first | exact rfl | assumption); omega)
    | ((with_reducible apply lm_wA); (first | exact rfl | assumption); omega)
    | ((with_reducible apply lm_wJ); (first | exact rfl | assumption); omega)
    | ((with_reducible apply lm_wB); (first | exact rfl | assumption); omega)
    | ((with_reducible apply lm_sAl); (first | exact rfl | assumption); omega)
    | ((with_reducible apply lm_iW); decide))
    simp only [Nat.reduceDiv, Nat.reduceMod]
    rw [k3, lm_om, lm_oo]
    refine lm_cV c4 ?_
    repeat (first
    | ((with_reducible apply lm_sI); exact rfl)
    | ((with_reducible apply lm_sR); exact rfl)
    | ((with_reducible apply lm_sS); exact rfl; exact rfl)
    | ((with_reducible apply lm_sL); exact rfl)
    | ((with_reducible apply lm_sP); exact rfl; exact rfl)
    | ((with_reducible apply lm_sPL); exact rfl; exact rfl)
    | ((with_reducible apply lm_sAA); exact rfl; exact rfl)
    | ((with_reducible apply lm_sA); (first | exact rfl | assumption); omega)
    | ((with_reducible apply lm_sJ); (first | exact rfl | assumption); omega)
    | ((with_reducible apply lm_sB); (first | exact rfl | assumption); omega)
    | ((with_reducible apply lm_wA); (first | exact rfl | assumption); omega)
    | ((with_reducible apply lm_wJ); (first | exact rfl | assumption); omega)
    | ((with_reducible apply lm_wB); (first | exact rfl | assumption); omega)
    | ((with_reducible apply lm_sAl); (first | exact rfl | assumption); omega)
    | ((with_reducible apply lm_iW); decide))
    simp only [Nat.reduceDiv, Nat.reduceMod]
    rw [k44 m4 (by rw [f4 44 (by decide) (by decide), r3 44 (by decide), r2 44 (by decide), r1 44 (by decide)]), lm_K64, lm_om, lm_oo]
    refine lm_sCp (u := 1) rfl rfl (Or.inr rfl) (by decide) (by omega) ?_
    rw [eM5]
    repeat (first
    | ((with_reducible apply lm_sI); exact rfl)
    | ((with_reducible apply lm_sR); exact rfl)
    | ((with_reducible apply lm_sS); exact rfl; exact rfl)
    | ((with_reducible apply lm_sL); exact rfl)
    | ((with_reducible apply lm_sP); exact rfl; exact rfl)
    | ((with_reducible apply lm_sPL); exact rfl; exact rfl)
    | ((with_reducible apply lm_sAA); exact rfl; exact rfl)
    | ((with_reducible apply lm_sA); (first | exact rfl | assumption); omega)
    | ((with_reducible apply lm_sJ); (first | exact rfl | assumption); omega)
    | ((with_reducible apply lm_sB); (first | exact rfl | assumption); omega)
    | ((with_reducible apply lm_wA); (first | exact rfl | assumption); omega)
    | ((with_reducible apply lm_wJ); (first | exact rfl | assumption); omega)
    | ((with_reducible apply lm_wB); (first | exact rfl | assumption); omega)
    | ((with_reducible apply lm_sAl); (first | exact rfl | assumption); omega)
    | ((with_reducible apply lm_iW); decide))
    simp only [Nat.reduceDiv, Nat.reduceMod]
    rw [k44 M5 (rall 44 (by decide) (by decide) (by decide) (by decide)), lm_K96, lm_om, lm_oo]
    rfl
end LMKD
