/-! ===== keys of the class's Kem ===== -/
section LMKC
variable {xs : List Int32} {C : lm_CX} {d k e : Nat} {m m0 : lm_MI} {n n0 : lm_ML} {x : lm_H × Nat × Nat} {P : Nat → Int32}
/-- what stays: the pair P, the tables, the numbers k and eta -/
def lm_KP (C : lm_CX) (P : Nat → Int32) (k e : Nat) (m : lm_MI) : Prop := ln_rt m ∧ lm_Ktb m ∧ m 44 12 = Int32.ofNat k ∧ m 44 13 = Int32.ofNat e ∧ ∀ i, i < 64 → lm_b8 (m 73 i) = lm_b8 (P i)
theorem lm_KP.keep {m' : lm_MI} (h : lm_KP C P k e m) (h1 : ln_rt m') (h2 : m' 44 = m 44) (h3 : m' 45 = m 45) (h4 : m' 46 = m 46) (h5 : m' 73 = m 73) : lm_KP C P k e m' := ⟨h1, ⟨by rw [h3]; exact h.2.1.1, by rw [h4]; exact h.2.1.2⟩, by rw [h2]; exact h.2.2.1, by rw [h2]; exact h.2.2.2.1, by rw [h5]; exact h.2.2.2.2⟩
theorem lm_kno_of {num : Nat} (h : lm_KP C P k e m) : lm_cb (ln_bt (lm_Hm C 12 (lm_gn (m 73) 32 (Int32.ofNat num)) 33)) e = lm_kno C P 32 e num := by
  unfold lm_kno
  rw [lm_gn_ext (s := m 73) (s' := P) (fun i hi => h.2.2.2.2 (32 + i) (by omega))]
/-- noise and its transform into p -/
theorem lm_kns {p num : Nat} (hC : lm_Cok xs C) (h : lm_KP C P k e m) (he : e = 2 ∨ e = 3) (hp : lm_ar p = some (0, 256)) (hp2 : 64 < p ∧ p < 71) : ∃ m1 n1 m', lm_cal (lm_sc xs) (d + 5) 217 [.ref 44, .ref p, .int (Int32.ofNat num), .int (Int32.ofNat e)] (lm_w m n x) = some (.ok none, lm_w m1 n1 x) ∧ lm_cal (lm_sc xs) (d + 5) 218 [.ref 44, .ref p] (lm_w m1 n1 x) = some (.ok none, lm_w m' n1 x) ∧ (∀ q, (q < 5 ∨ 22 < q) → q ≠ 71 → q ≠ 72 → q ≠ p → m' q = m q) ∧ (∀ q, (q < 5 ∨ 22 < q) → q ≠ 71 → q ≠ 72 → q ≠ p → m1 q = m q) ∧ lm_fN m n m' n1 ∧ (∀ c, c < 256 → m' p c = Int32.ofInt (lm_kS C P 32 e num c)) := by
  obtain ⟨m1, n1, c1, f1, g1, v1⟩ := lm_u217 (xs := xs) (d := d) (x := x) (n := n) (p := p) (w := Int32.ofNat num) hC h.1 he hp (by omega) (by omega)
  rw [lm_kno_of h] at v1
  have hb : lm_bnd 3329 (lm_kno C P 32 e num) := fun c _ => by
    have := lm_cb_b (s := ln_bt (lm_Hm C 12 (lm_gn P 32 (Int32.ofNat num)) 33)) (e := e) (i := c)
    unfold lm_kno
    omega
  obtain ⟨m2, c2, p2⟩ := lm_u218 (sc := lm_sc xs) (d := d + 2) (n := n1) (x := x) hp (by omega) (fun i hi => by rw [f1 45 (by decide) (by decide) (by decide) (by omega)]; exact h.2.1.1 i hi) hb v1
  refine ⟨m1, n1, m2, c1, c2, fun q h1 h2 h3 h4 => (p2.1 q h4).trans (f1 q h1 h2 h3 h4), f1, g1.tr (.of (p2.1 11 (by omega)) (p2.1 17 (by omega))), p2.2⟩
theorem lm_e3n {a : Int} : Int32.ofInt (a % 3329) = Int32.ofNat (a % 3329).toNat ∧ (a % 3329).toNat < 2 ^ 12 := by
  have := lm_m3329 a
  refine ⟨?_, ?_⟩
  · rw [lm_oN, Int.toNat_of_nonneg this.1]
  · show (a % 3329).toNat < 4096
    omega
theorem lm_kSn {C : lm_CX} {P : Nat → Int32} {a e num c : Nat} : Int32.ofInt (lm_kS C P a e num c) = Int32.ofNat (lm_kS C P a e num c).toNat ∧ (lm_kS C P a e num c).toNat < 2 ^ 12 := lm_e3n (a := lm_nt (lm_kno C P a e num) c)
/-- the first loop: S -/
def lm_I52 (C : lm_CX) (P : Nat → Int32) (e : Nat) (m0 : lm_MI) (n0 : lm_ML) (i : Nat) (m : lm_MI) (n : lm_ML) : Prop := (∀ r, (r < 5 ∨ 22 < r) → r ≠ 71 → r ≠ 72 → (r < 65 ∨ 68 < r) → r ≠ 31 → m r = m0 r) ∧ lm_fN m0 n0 m n ∧ (∀ i', i' < i → ∀ c, c < 256 → m (65 + i') c = Int32.ofInt (lm_kS C P 32 e i' c)) ∧ ∀ j, j < 384 * i → lm_yb (m 31 j) = lm_pkB (fun i => lm_kS C P 32 e i) 12 j
theorem lm_l152a (hC : lm_Cok xs C) (h : lm_KP C P k e m) (he : e = 2 ∨ e = 3) (hk : k ≤ 4) : ∃ m' n', lm_I52 C P e m n k m' n' ∧ ∀ R, lm_rn (lm_sc xs) (d + 5) lm_m152.2.2.2.2.1 (lm_reg lm_m152.2.2.2.2.2) (52, [(0, .ref 44), (1, .ref 27), (2, .ref 28), (3, .ref 30), (4, .int (Int32.ofNat k))], []) (lm_w m' n' x) = some R → lm_rn (lm_sc xs) (d + 5) lm_m152.2.2.2.2.1 (lm_reg lm_m152.2.2.2.2.2) (52, [(0, .ref 44), (1, .ref 27), (2, .ref 28), (3, .ref 30), (4, .int (Int32.ofNat 0))], []) (lm_w m n x) = some R := by
  refine lm_lp (sc := lm_sc xs) (d := d + 5) (b := k) (hs := lm_m152.2.2.2.2.1) (code := lm_reg lm_m152.2.2.2.2.2) (x := x) (fr := fun i => (52, [(0, .ref 44), (1, .ref 27), (2, .ref 28), (3, .ref 30), (4, .int (Int32.ofNat i))], [])) (I := fun i m' n' => lm_I52 C P e m n i m' n') (fun i hi m1 n1 ⟨g1, g2, g3, g4⟩ => ?_) k 0 (by omega) m n ⟨fun _ _ _ _ _ _ => rfl, .rf, fun i' hi' => absurd hi' (by omega), fun j hj => absurd hj (by omega)⟩
  have h1 : lm_KP C P k e m1 := h.keep (g2.rt h.1) (g1 44 (by decide) (by decide) (by decide) (by decide) (by decide)) (g1 45 (by decide) (by decide) (by decide) (by decide) (by decide)) (g1 46 (by decide) (by decide) (by decide) (by decide) (by decide)) (g1 73 (by decide) (by decide) (by decide) (by decide) (by decide))
  obtain ⟨m2, n2, m3, c2, c3, f3, f2, gN, v3⟩ := lm_kns (xs := xs) (d := d) (n := n1) (x := x) (p := 65 + i) (num := i) hC h1 he (lm_arV i (by omega)) (by omega)
  obtain ⟨m4, c4, p4⟩ := lm_u219 (sc := lm_sc xs) (e := d + 4) (n := n2) (x := x) (m := m3) (p := 65 + i) (q := 31) (v := 65536) (a := 384 * i) (d := 12) (F := fun c => (lm_kS C P 32 e i c).toNat) rfl (lm_arV i (by omega)) (by omega) (by decide) (by decide) (by decide) (by omega) (fun c hc => by rw [v3 c hc]; exact lm_kSn)
  refine ⟨m4, n2, ⟨fun r r1 r2 r3 r4 r5 => ?_, ?_, fun i' hi' c hc => ?_, fun j hj => ?_⟩, fun R K => lm_e152_52 ?_⟩
  · rw [p4.1 r r5, f3 r r1 r2 r3 (by omega), g1 r r1 r2 r3 r4 r5]
  · exact g2.tr (gN.tr (.of (p4.1 11 (by decide)) (p4.1 17 (by decide))))
  · rw [p4.1 (65 + i') (by omega)]
    by_cases c0 : i' = i
    · subst c0
      exact v3 c hc
    · rw [f3 (65 + i') (by omega) (by omega) (by omega) (by omega)]
      exact g3 i' (by omega) c hc
  · by_cases c0 : j < 384 * i
    · rw [p4.2.1 j (by omega), f3 31 (by decide) (by decide) (by decide) (by omega)]
      exact g4 j c0
    · have := p4.2.2 (j - 384 * i) (by omega)
      rw [show 384 * i + (j - 384 * i) = j by omega] at this
      rw [this]
      unfold lm_pkB
      rw [show j / (32 * 12) = i by omega, show j % (32 * 12) = j - 384 * i by omega]
  · unfold lm_q152_52
    repeat (first
    | ((with_reducible apply lm_sI); exact rfl)
    | ((with_reducible apply lm_sR); exact rfl)
    | ((with_reducible apply lm_sS); exact rfl; exact rfl)
    | ((with_reducible apply lm_sL); exact rfl)
    | ((with_reducible apply lm_sP); exact rfl; exact rfl)
    | ((with_reducible apply lm_sPL); exact rfl; exact rfl)
    | ((with_reducible apply lm_sAA); exact rfl; exact rfl)
    | ((with_reducible apply lm_sA); (first | exact rfl | assumption); omega)
    | ((with_reducible apply lm_sJ); (first | exact rfl | assumption); omega)
    | ((with_reducible apply lm_sB); (first | exact rfl | assumption); omega)
    | ((with_reducible apply lm_wA); (first | exact rfl | assumption); omega)
    | ((with_reducible apply lm_wJ); (first | exact rfl | assumption); omega)
    | ((with_reducible apply lm_wB); (first | exact rfl | assumption); omega)
    | ((with_reducible apply lm_sAl); (first | exact rfl | assumption); omega)
    | ((with_reducible apply lm_iW); decide))
    simp only [Nat.reduceDiv, Nat.reduceMod]
    rw [h1.2.2.1]
    refine lm_geF (by omega) (by omega) (by omega) ?_
    repeat (first
    | ((with_reducible apply lm_sI); exact rfl)
    | ((with_reducible apply lm_sR); exact rfl)
    | ((with_reducible apply lm_sS); exact rfl; exact rfl)
    | ((with_reducible apply lm_sL); exact rfl)
    | ((with_reducible apply lm_sP); exact rfl; exact rfl)
    | ((with_reducible apply lm_sPL); exact rfl; exact rfl)
    | ((with_reducible apply lm_sAA); exact rfl; exact rfl)
    | ((with_reducible apply lm_sA); (first | exact rfl | assumption); omega)
    | ((with_reducible apply lm_sJ); (first | exact rfl | assumption); omega)
    | ((with_reducible apply lm_sB); (first | exact rfl | assumption); omega)
    | ((with_reducible apply lm_wA); (first | exact rfl | assumption); omega)
    | ((with_reducible apply lm_wJ); (first | exact rfl | assumption); omega)
    | ((with_reducible apply lm_wB); (first | exact rfl | assumption); omega)
    | ((with_reducible apply lm_sAl); (first | exact rfl | assumption); omega)
    | ((with_reducible apply lm_iW); decide))
    refine lm_sAA rfl (lm_roV i (by omega)) ?_
    repeat (first
    | ((with_reducible apply lm_sI); exact rfl)
    | ((with_reducible apply lm_sR); exact rfl)
    | ((with_reducible apply lm_sS); exact rfl; exact rfl)
    | ((with_reducible apply lm_sL); exact rfl)
    | ((with_reducible apply lm_sP); exact rfl; exact rfl)
    | ((with_reducible apply lm_sPL); exact rfl; exact rfl)
    | ((with_reducible apply lm_sAA); exact rfl; exact rfl)
    | ((with_reducible apply lm_sA); (first | exact rfl | assumption); omega)
    | ((with_reducible apply lm_sJ); (first | exact rfl | assumption); omega)
    | ((with_reducible apply lm_sB); (first | exact rfl | assumption); omega)
    | ((with_reducible apply lm_wA); (first | exact rfl | assumption); omega)
    | ((with_reducible apply lm_wJ); (first | exact rfl | assumption); omega)
    | ((with_reducible apply lm_wB); (first | exact rfl | assumption); omega)
    | ((with_reducible apply lm_sAl); (first | exact rfl | assumption); omega)
    | ((with_reducible apply lm_iW); decide))
    simp only [Nat.reduceDiv, Nat.reduceMod]
    rw [h1.2.2.2.1]
    refine lm_cV c2 ?_
    repeat (first
    | ((with_reducible apply lm_sI); exact rfl)
    | ((with_reducible apply lm_sR); exact rfl)
    | ((with_reducible apply lm_sS); exact rfl; exact rfl)
    | ((with_reducible apply lm_sL); exact rfl)
    | ((with_reducible apply lm_sP); exact rfl; exact rfl)
    | ((with_reducible apply lm_sPL); exact rfl; exact rfl)
    | ((with_reducible apply lm_sAA); exact rfl; exact rfl)
    | ((with_reducible apply lm_sA); (first | exact rfl | assumption); omega)
    | ((with_reducible apply lm_sJ); (first | exact rfl | assumption); omega)
    | ((with_reducible apply lm_sB); (first | exact rfl | assumption); omega)
    | ((with_reducible apply lm_wA); (first | exact rfl | assumption); omega)
    | ((with_reducible apply lm_wJ); (first | exact rfl | assumption); omega)
    | ((with_reducible apply lm_wB); (first | exact rfl | assumption); omega)
    | ((with_reducible apply lm_sAl); (first | exact rfl | assumption); omega)
    | ((with_reducible apply lm_iW); decide))
    refine lm_sAA rfl (lm_roV i (by omega)) ?_
    repeat (first
    | ((with_reducible apply lm_sI); exact rfl)
    | ((with_reducible apply lm_sR); exact rfl)
    | ((with_reducible apply lm_sS); exact rfl; exact rfl)
    | ((with_reducible apply lm_sL); exact rfl)
    | ((with_reducible apply lm_sP); exact rfl; exact rfl)
    | ((with_reducible apply lm_sPL); exact rfl; exact rfl)
    | ((with_reducible apply lm_sAA); exact rfl; exact rfl)
    | ((with_reducible apply lm_sA); (first | exact rfl | assumption); omega)
    | ((with_reducible apply lm_sJ); (first | exact rfl | assumption); omega)
    | ((with_reducible apply lm_sB); (first | exact rfl | assumption); omega)
    | ((with_reducible apply lm_wA); (first | exact rfl | assumption); omega)
    | ((with_reducible apply lm_wJ); (first | exact rfl | assumption); omega)
    | ((with_reducible apply lm_wB); (first | exact rfl | assumption); omega)
    | ((with_reducible apply lm_sAl); (first | exact rfl | assumption); omega)
    | ((with_reducible apply lm_iW); decide))
    refine lm_cV c3 ?_
    repeat (first
    | ((with_reducible apply lm_sI); exact rfl)
    | ((with_reducible apply lm_sR); exact rfl)
    | ((with_reducible apply lm_sS); exact rfl; exact rfl)
    | ((with_reducible apply lm_sL); exact rfl)
    | ((with_reducible apply lm_sP); exact rfl; exact rfl)
    | ((with_reducible apply lm_sPL); exact rfl; exact rfl)
    | ((with_reducible apply lm_sAA); exact rfl; exact rfl)
    | ((with_reducible apply lm_sA); (first | exact rfl | assumption); omega)
    | ((with_reducible apply lm_sJ); (first | exact rfl | assumption); omega)
    | ((with_reducible apply lm_sB); (first | exact rfl | assumption); omega)
    | ((with_reducible apply lm_wA); (first | exact rfl | assumption); omega)
    | ((with_reducible apply lm_wJ); (first | exact rfl | assumption); omega)
    | ((with_reducible apply lm_wB); (first | exact rfl | assumption); omega)
    | ((with_reducible apply lm_sAl); (first | exact rfl | assumption); omega)
    | ((with_reducible apply lm_iW); decide))
    refine lm_sAA rfl (lm_roV i (by omega)) ?_
    repeat (first
    | ((with_reducible apply lm_sI); exact rfl)
    | ((with_reducible apply lm_sR); exact rfl)
    | ((with_reducible apply lm_sS); exact rfl; exact rfl)
    | ((with_reducible apply lm_sL); exact rfl)
    | ((with_reducible apply lm_sP); exact rfl; exact rfl)
    | ((with_reducible apply lm_sPL); exact rfl; exact rfl)
    | ((with_reducible apply lm_sAA); exact rfl; exact rfl)
    | ((with_reducible apply lm_sA); (first | exact rfl | assumption); omega)
    | ((with_reducible apply lm_sJ); (first | exact rfl | assumption); omega)
    | ((with_reducible apply lm_sB); (first | exact rfl | assumption); omega)
    | ((with_reducible apply lm_wA); (first | exact rfl | assumption); omega)
    | ((with_reducible apply lm_wJ); (first | exact rfl | assumption); omega)
    | ((with_reducible apply lm_wB); (first | exact rfl | assumption); omega)
    | ((with_reducible apply lm_sAl); (first | exact rfl | assumption); omega)
    | ((with_reducible apply lm_iW); decide))
    rw [lm_K12, lm_K384, lm_om]
    refine lm_cV c4 ?_
    rw [lm_K1, lm_oo]
    exact K
end LMKC
