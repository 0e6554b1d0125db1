/-! ===== kemKeys of the reference: the rest ===== -/
/-- what is kept where bits are put too -/
def lm_fB (m : lm_MI) (n : lm_ML) (m' : lm_MI) (n' : lm_ML) : Prop := (∀ j, j ≠ 18 → j ≠ 19 → j ≠ 20 → j ≠ 24 → m' 203 j = m 203 j) ∧ (∀ q, q ≠ 203 → q ≠ 223 → q ≠ 224 → q ≠ 225 → q ≠ 226 → q ≠ 230 → n' q = n q)
theorem lm_fB.rf {m : lm_MI} {n : lm_ML} : lm_fB m n m n := ⟨fun _ _ _ _ _ => rfl, fun _ _ _ _ _ _ _ => rfl⟩
theorem lm_fB.tr {m m1 m2 : lm_MI} {n n1 n2 : lm_ML} (h : lm_fB m n m1 n1) (g : lm_fB m1 n1 m2 n2) : lm_fB m n m2 n2 := ⟨fun j a b c d => (g.1 j a b c d).trans (h.1 j a b c d), fun q a b c d e f => (g.2 q a b c d e f).trans (h.2 q a b c d e f)⟩
theorem lm_fG.B {m m1 : lm_MI} {n n1 : lm_ML} (h : lm_fG m n m1 n1) : lm_fB m n m1 n1 := ⟨fun j a b c _ => h.1 j a b c, h.2⟩
theorem lm_fB.p {m m' : lm_MI} {n : lm_ML} (h : ∀ j, j ≠ 24 → m' 203 j = m 203 j) : lm_fB m n m' n := ⟨fun j _ _ _ a => h j a, fun _ _ _ _ _ _ _ => rfl⟩
theorem lm_fB.of {m m' : lm_MI} {n : lm_ML} (h : m' 203 = m 203) : lm_fB m n m' n := ⟨fun j _ _ _ _ => by rw [h], fun _ _ _ _ _ _ _ => rfl⟩
theorem lm_fB.cx {m m' : lm_MI} {n n' : lm_ML} (h : lm_fB m n m' n') (e : m' 221 = m 221) : lm_cx m' n' = lm_cx m n := by
  have g : ∀ q, (q = 215 ∨ q = 216 ∨ q = 217 ∨ q = 218 ∨ q = 222) → n' q = n q := fun q hq => h.2 q (by omega) (by omega) (by omega) (by omega) (by omega) (by omega)
  unfold lm_cx lm_tb
  rw [e, g 222 (by decide), g 216 (by decide), g 215 (by decide), g 217 (by decide), g 218 (by decide)]
section LMRE
variable {sc : lm_H} {C : lm_CX} {d k e : Nat} {m m0 : lm_MI} {n n0 : lm_ML} {x : lm_H × Nat × Nat} {P R : Nat → Int32}
theorem lm_RK0.keepB {m' : lm_MI} {n' : lm_ML} (h : lm_RK0 C k e m n) (g : lm_fB m n m' n') (h1 : m' 221 = m 221) (h2 : m' 231 = m 231) : lm_RK0 C k e m' n' := ⟨(g.cx h1).trans h.1, by rw [g.1 32 (by decide) (by decide) (by decide) (by decide)]; exact h.2.1, by rw [g.1 33 (by decide) (by decide) (by decide) (by decide)]; exact h.2.2.1, by rw [h2]; exact h.2.2.2⟩
theorem lm_Fg_at {F : Nat → Nat → Int} {i c : Nat} (hc : c < 256) : lm_Fg F (256 * i + c) = (F i c).toNat := by
  unfold lm_Fg
  rw [show (256 * i + c) / 256 = i by omega, show (256 * i + c) % 256 = c by omega]
/-- a polynomial of the public key put as bits -/
theorem lm_l22c {i : Nat} {F : Nat → Nat → Int} (hi : i < 4) (hF : ∀ c, c < 256 → m 243 c = Int32.ofNat (F i c).toNat ∧ (F i c).toNat < 2 ^ 12) (hT : m 203 24 = Int32.ofNat (12 * (256 * i))) (hB : lm_PB m 265 0 (12 * (256 * i)) (lm_ts (lm_Fg F) 12)) : ∃ m', (∀ r, r ≠ 203 → r ≠ 265 → m' r = m r) ∧ (∀ j, j ≠ 24 → m' 203 j = m 203 j) ∧ m' 203 24 = Int32.ofNat (12 * (256 * (i + 1))) ∧ lm_PB m' 265 0 (12 * (256 * (i + 1))) (lm_ts (lm_Fg F) 12) ∧ ∀ R, lm_rn sc (d + 6) lm_m22.2.2.2.2.1 (lm_reg lm_m22.2.2.2.2.2) (253, [(0, .ref 203), (2, .int (Int32.ofNat i)), (3, .int (Int32.ofNat 256))], []) (lm_w m' n x) = some R → lm_rn sc (d + 6) lm_m22.2.2.2.2.1 (lm_reg lm_m22.2.2.2.2.2) (253, [(0, .ref 203), (2, .int (Int32.ofNat i)), (3, .int (Int32.ofNat 0))], []) (lm_w m n x) = some R := by
  obtain ⟨m', n', ⟨en, h1, h2, h3, h4⟩, k1⟩ := lm_lp (sc := sc) (d := d + 6) (b := 256) (hs := lm_m22.2.2.2.2.1) (code := lm_reg lm_m22.2.2.2.2.2) (x := x) (fr := fun c => (253, [(0, .ref 203), (2, .int (Int32.ofNat i)), (3, .int (Int32.ofNat c))], [])) (I := fun c m' n' => n' = n ∧ (∀ r, r ≠ 203 → r ≠ 265 → m' r = m r) ∧ (∀ j, j ≠ 24 → m' 203 j = m 203 j) ∧ m' 203 24 = Int32.ofNat (12 * (256 * i + c)) ∧ lm_PB m' 265 0 (12 * (256 * i + c)) (lm_ts (lm_Fg F) 12)) (fun c hc m1 n1 ⟨en, h1, h2, h3, h4⟩ => by
    obtain ⟨a1, a2⟩ := hF c hc
    obtain ⟨m2, c2, p2, t2, f2, g2, o2⟩ := lm_put1 (sc := sc) (d := d + 5) (n := n1) (x := x) (q := 265) (v := 65536) (F := lm_Fg F) (c := 256 * i + c) (w := 12) rfl (by decide) (by decide) h3 (by omega) (by decide) (by decide) h4 (by rw [lm_Fg_at hc]; exact a2)
    rw [lm_Fg_at hc] at c2
    refine ⟨m2, n1, ⟨en, fun r r1 r2 => (f2 r r1 r2).trans (h1 r r1 r2), fun j hj => (g2 j hj).trans (h2 j hj), t2, p2⟩, fun R K => lm_e22_253 ?_⟩
    unfold lm_q22_253
    rw [lm_K256, lm_K10, lm_K0, lm_K12]
    refine lm_geF (by omega) (by omega) (by omega) ?_
    repeat (first
    | ((with_reducible apply lm_sI); exact rfl)
    | ((with_reducible apply lm_sR); exact rfl)
    | ((with_reducible apply lm_sS); exact rfl; exact rfl)
    | ((with_reducible apply lm_sL); exact rfl)
    | ((with_reducible apply lm_sP); exact rfl; exact rfl)
    | ((with_reducible apply lm_sPL); exact rfl; exact rfl)
    | ((with_reducible apply lm_sAA); exact rfl; exact rfl)
    | ((with_reducible apply lm_sA); (first | exact rfl | assumption); omega)
    | ((with_reducible apply lm_sJ); (first | exact rfl | assumption); omega)
    | ((with_reducible apply lm_sB); (first | exact rfl | assumption); omega)
    | ((with_reducible apply lm_wA); (first | exact rfl | assumption); omega)
    | ((with_reducible apply lm_wJ); (first | exact rfl | assumption); omega)
    | ((with_reducible apply lm_wB); (first | exact rfl | assumption); omega)
    | ((with_reducible apply lm_sAl); (first | exact rfl | assumption); omega)
    | ((with_reducible apply lm_iW); decide))
    rw [h1 243 (by decide) (by decide), a1]
    refine lm_cV c2 ?_
    rw [lm_K1, lm_oo]
    exact K) 256 0 (by omega) m n ⟨rfl, fun _ _ _ => rfl, fun _ _ => rfl, hT, hB⟩
  subst en
  exact ⟨m', h1, h2, h3, h4, k1⟩
def lm_I137 (C : lm_CX) (P : Nat → Int32) (k e : Nat) (m0 : lm_MI) (n0 : lm_ML) (i : Nat) (m : lm_MI) (n : lm_ML) : Prop := (∀ r, r ≠ 203 → r ≠ 227 → (r < 243 ∨ 244 < r) → r ≠ 264 → r ≠ 265 → m r = m0 r) ∧ lm_fB m0 n0 m n ∧ m 203 24 = Int32.ofNat (12 * (256 * i)) ∧ lm_PB m 265 0 (12 * (256 * i)) (lm_ts (lm_Fg (ln_kT C P e k)) 12) ∧ ∀ i' j', i' < i → j' < k → (lm_kA C P 0 j' i').1 = 256
theorem lm_kTn {i c : Nat} : Int32.ofInt (ln_kT C P e k i c) = Int32.ofNat (ln_kT C P e k i c).toNat ∧ (ln_kT C P e k i c).toNat < 2 ^ 12 := lm_e3n
theorem lm_l22d (h : lm_RK0 C k e m n) (h4 : m 203 4 = 0) (he : e = 2 ∨ e = 3) (hk : k ≤ 4) (hk1 : 1 ≤ k) (hP : ∀ i, i < 64 → lm_b8 (m 263 i) = lm_b8 (P i)) (hV : ∀ j, j < k → ∀ c, c < 256 → m (233 + j) c = Int32.ofInt (lm_kS C P 32 e j c)) (hT : m 203 24 = Int32.ofNat 0) : (∃ m' n', lm_I137 C P k e m n k m' n' ∧ ∀ R, lm_rn sc (d + 6) lm_m22.2.2.2.2.1 (lm_reg lm_m22.2.2.2.2.2) (137, [(0, .ref 203), (2, .int (Int32.ofNat k))], []) (lm_w m' n' x) = some R → lm_rn sc (d + 6) lm_m22.2.2.2.2.1 (lm_reg lm_m22.2.2.2.2.2) (137, [(0, .ref 203), (2, .int (Int32.ofNat 0))], []) (lm_w m n x) = some R) ∨ ∃ R, lm_E22 C P k m n x R ∧ lm_rn sc (d + 6) lm_m22.2.2.2.2.1 (lm_reg lm_m22.2.2.2.2.2) (137, [(0, .ref 203), (2, .int (Int32.ofNat 0))], []) (lm_w m n x) = some R := by
  refine lm_lpe (sc := sc) (d := d + 6) (b := k) (hs := lm_m22.2.2.2.2.1) (code := lm_reg lm_m22.2.2.2.2.2) (x := x) (fr := fun i => (137, [(0, .ref 203), (2, .int (Int32.ofNat i))], [])) (I := fun i m' n' => lm_I137 C P k e m n i m' n') (E := lm_E22 C P k m n x) (fun i hi m1 n1 ⟨g1, g2, g3, g4, g5⟩ => ?_) k 0 (by omega) m n ⟨fun _ _ _ _ _ _ => rfl, .rf, hT, ⟨fun t ht => absurd ht (by omega), fun t _ _ h => absurd (by decide) h⟩, fun i' j' hi' => absurd hi' (by omega)⟩
  have h1 : lm_RK0 C k e m1 n1 := h.keepB g2 (g1 221 (by decide) (by decide) (by decide) (by decide) (by decide)) (g1 231 (by decide) (by decide) (by decide) (by decide) (by decide))
  have h41 : m1 203 4 = 0 := (g2.1 4 (by decide) (by decide) (by decide) (by decide)).trans h4
  have e263 : m1 263 = m 263 := g1 263 (by decide) (by decide) (by decide) (by decide) (by decide)
  obtain ⟨m2, n2, m3, n3, c2, c3, f3, gG, f2, v3⟩ := lm_rns (sc := sc) (d := d) (x := x) (p := 243) (num := k + i) (q := 263) (v := 256) (a := 32) (P := P) h1 he rfl (by decide) rfl (by decide) (by decide) (by decide) (fun t ht => by rw [e263]; exact hP _ (by omega))
  have h3 : lm_RK0 C k e m3 n3 := h1.keep gG (f3 221 (by decide) (by decide) (by decide) (by decide)) (f3 231 (by decide) (by decide) (by decide) (by decide))
  have h43 : m3 203 4 = 0 := (gG.1 4 (by decide) (by decide) (by decide)).trans h41
  have head : ∀ R, lm_rn sc (d + 6) lm_m22.2.2.2.2.1 (lm_reg lm_m22.2.2.2.2.2) (185, [(0, .ref 203), (2, .int (Int32.ofNat i)), (3, .int (Int32.ofNat 0))], []) (lm_w m3 n3 x) = some R → lm_rn sc (d + 6) lm_m22.2.2.2.2.1 (lm_reg lm_m22.2.2.2.2.2) (137, [(0, .ref 203), (2, .int (Int32.ofNat i))], []) (lm_w m1 n1 x) = some R := by
    intro R K
    refine lm_e22_137 ?_
    unfold lm_q22_137
    repeat (first
    | ((with_reducible apply lm_sI); exact rfl)
    | ((with_reducible apply lm_sR); exact rfl)
    | ((with_reducible apply lm_sS); exact rfl; exact rfl)
    | ((with_reducible apply lm_sL); exact rfl)
    | ((with_reducible apply lm_sP); exact rfl; exact rfl)
    | ((with_reducible apply lm_sPL); exact rfl; exact rfl)
    | ((with_reducible apply lm_sAA); exact rfl; exact rfl)
    | ((with_reducible apply lm_sA); (first | exact rfl | assumption); omega)
    | ((with_reducible apply lm_sJ); (first | exact rfl | assumption); omega)
    | ((with_reducible apply lm_sB); (first | exact rfl | assumption); omega)
    | ((with_reducible apply lm_wA); (first | exact rfl | assumption); omega)
    | ((with_reducible apply lm_wJ); (first | exact rfl | assumption); omega)
    | ((with_reducible apply lm_wB); (first | exact rfl | assumption); omega)
    | ((with_reducible apply lm_sAl); (first | exact rfl | assumption); omega)
    | ((with_reducible apply lm_iW); decide))
    simp only [Nat.reduceDiv, Nat.reduceMod]
    rw [h1.2.1]
    refine lm_geF (by omega) (by omega) (by omega) ?_
    rw [lm_K10, lm_K32]
    repeat (first
    | ((with_reducible apply lm_sI); exact rfl)
    | ((with_reducible apply lm_sR); exact rfl)
    | ((with_reducible apply lm_sS); exact rfl; exact rfl)
    | ((with_reducible apply lm_sL); exact rfl)
    | ((with_reducible apply lm_sP); exact rfl; exact rfl)
    | ((with_reducible apply lm_sPL); exact rfl; exact rfl)
    | ((with_reducible apply lm_sAA); exact rfl; exact rfl)
    | ((with_reducible apply lm_sA); (first | exact rfl | assumption); omega)
    | ((with_reducible apply lm_sJ); (first | exact rfl | assumption); omega)
    | ((with_reducible apply lm_sB); (first | exact rfl | assumption); omega)
    | ((with_reducible apply lm_wA); (first | exact rfl | assumption); omega)
    | ((with_reducible apply lm_wJ); (first | exact rfl | assumption); omega)
    | ((with_reducible apply lm_wB); (first | exact rfl | assumption); omega)
    | ((with_reducible apply lm_sAl); (first | exact rfl | assumption); omega)
    | ((with_reducible apply lm_iW); decide))
    simp only [Nat.reduceDiv, Nat.reduceMod]
    rw [h1.2.1, h1.2.2.1, lm_oo]
    refine lm_cV c2 ?_
    repeat (first
    | ((with_reducible apply lm_sI); exact rfl)
    | ((with_reducible apply lm_sR); exact rfl)
    | ((with_reducible apply lm_sS); exact rfl; exact rfl)
    | ((with_reducible apply lm_sL); exact rfl)
    | ((with_reducible apply lm_sP); exact rfl; exact rfl)
    | ((with_reducible apply lm_sPL); exact rfl; exact rfl)
    | ((with_reducible apply lm_sAA); exact rfl; exact rfl)
    | ((with_reducible apply lm_sA); (first | exact rfl | assumption); omega)
    | ((with_reducible apply lm_sJ); (first | exact rfl | assumption); omega)
    | ((with_reducible apply lm_sB); (first | exact rfl | assumption); omega)
    | ((with_reducible apply lm_wA); (first | exact rfl | assumption); omega)
    | ((with_reducible apply lm_wJ); (first | exact rfl | assumption); omega)
    | ((with_reducible apply lm_wB); (first | exact rfl | assumption); omega)
    | ((with_reducible apply lm_sAl); (first | exact rfl | assumption); omega)
    | ((with_reducible apply lm_iW); decide))
    refine lm_cV c3 ?_
    rw [lm_K0]
    exact K
  have fr3 : ∀ r, r ≠ 203 → r ≠ 227 → (r < 243 ∨ 244 < r) → r ≠ 264 → r ≠ 265 → m3 r = m r := fun r r1 r2 r3 r4 r5 => by rw [f3 r r1 r2 r4 (by omega), g1 r r1 r2 r3 r4 r5]
  rcases lm_l22b (sc := sc) (d := d) (x := x) (m := m3) (n := n3) (P := P) (i := i) h3 h43 hk hi (fun t ht => by rw [f3 263 (by decide) (by decide) (by decide) (by decide), e263]; exact hP t ht) (fun j hj c hc => by rw [fr3 _ (by omega) (by omega) (by omega) (by omega) (by omega)]; exact hV j hj c hc) v3 with ⟨m5, n5, ⟨a1, a2, a3, a4⟩, k5⟩ | ⟨R, ⟨m5, n5, eR, a1, a2, a3, a4, a5⟩, k5⟩
  · have e5 : ∀ c, c < 256 → m5 243 c = Int32.ofNat (ln_kT C P e k i c).toNat ∧ (ln_kT C P e k i c).toNat < 2 ^ 12 := fun c hc => by
      rw [a4 c hc, lm_apr_eq hk1 (fun _ => ln_cg.rf) (fun _ _ => ln_cg.rf) (fun _ _ => ln_cg.rf)]
      exact lm_kTn
    have T5 : m5 203 24 = Int32.ofNat (12 * (256 * i)) := by rw [a2.1 24 (by decide) (by decide) (by decide), gG.1 24 (by decide) (by decide) (by decide)]; exact g3
    have B5 : lm_PB m5 265 0 (12 * (256 * i)) (lm_ts (lm_Fg (ln_kT C P e k)) 12) := by
      unfold lm_PB
      rw [a1 265 (by decide) (by decide) (by decide) (by decide), f3 265 (by decide) (by decide) (by decide) (by decide)]
      exact g4
    obtain ⟨m6, b1, b2, b3, b4, k6⟩ := lm_l22c (sc := sc) (d := d) (x := x) (n := n5) (F := ln_kT C P e k) (i := i) (by omega) e5 T5 B5
    have h5 : lm_RK0 C k e m5 n5 := h3.keep a2 (a1 221 (by decide) (by decide) (by decide) (by decide)) (a1 231 (by decide) (by decide) (by decide) (by decide))
    refine Or.inl ⟨m6, n5, ⟨fun r r1 r2 r3 r4 r5 => ?_, ?_, b3, b4, fun i' j' hi' hj' => ?_⟩, fun R K => head R (k5 R (lm_e22_185 ?_))⟩
    · rw [b1 r r1 r5, a1 r r1 r2 (by omega) (by omega), fr3 r r1 r2 r3 r4 r5]
    · exact g2.tr (gG.B.tr (a2.B.tr (.p b2)))
    · by_cases ci : i' = i
      · subst ci
        exact a3 j' hj'
      · exact g5 i' j' (by omega) hj'
    · clear g5 a3
      unfold lm_q22_185
      repeat (first
    | ((with_reducible apply lm_sI); exact rfl)
    | ((with_reducible apply lm_sR); exact rfl)
    | ((with_reducible apply lm_sS); exact rfl; exact rfl)
    | ((with_reducible apply lm_sL); exact rfl)
    | ((with_reducible apply lm_sP); exact rfl; exact rfl)
    | ((with_reducible apply lm_sPL); exact rfl; exact rfl)
    | ((with_reducible apply lm_sAA); exact rfl; exact rfl)
    | ((with_reducible apply lm_sA); (first | exact rfl | assumption); omega)
    | ((with_reducible apply lm_sJ); (first | exact rfl | assumption); omega)
    | ((with_reducible apply lm_sB); (first | exact rfl | assumption); omega)
    | ((with_reducible apply lm_wA); (first | exact rfl | assumption); omega)
    | ((with_reducible apply lm_wJ); (first | exact rfl | assumption); omega)
    | ((with_reducible apply lm_wB); (first | exact rfl | assumption); omega)
    | ((with_reducible apply lm_sAl); (first | exact rfl | assumption); omega)
    | ((with_reducible apply lm_iW); decide))
      simp only [Nat.reduceDiv, Nat.reduceMod]
      rw [h5.2.1]
      refine lm_geT (by omega) (by omega) (by omega) ?_
      rw [lm_K0]
      refine k6 R (lm_e22_253 ?_)
      unfold lm_q22_253
      rw [lm_K256]
      refine lm_geT (by omega) (by omega) (by omega) ?_
      rw [lm_K1, lm_oo]
      exact K
  · refine Or.inr ⟨R, ⟨m5, n5, eR, fun r r1 r2 r3 r4 r5 => ?_, fun j j1 j2 j3 j4 j5 => ?_, fun q q1 q2 q3 q4 q5 q6 => ?_, a4, a5⟩, head R k5⟩
    · rw [a1 r r1 r2 r3 r4 r5, fr3 r r1 r2 r3 r4 r5]
    · rw [a2 j j1 j2 j3 j4 j5, gG.1 j j2 j3 j4, g2.1 j j2 j3 j4 j5]
    · rw [a3 q q1 q2 q3 q4 q5 q6, gG.2 q q1 q2 q3 q4 q5 q6, g2.2 q q1 q2 q3 q4 q5 q6]
/-- the secret's polynomials put as bits -/
def lm_I356 (F : Nat → Nat → Int) (m0 : lm_MI) (i : Nat) (m : lm_MI) : Prop := (∀ r, r ≠ 203 → r ≠ 208 → m r = m0 r) ∧ (∀ j, j ≠ 24 → m 203 j = m0 203 j) ∧ m 203 24 = Int32.ofNat (12 * (256 * i)) ∧ lm_PB m 208 0 (12 * (256 * i)) (lm_ts (lm_Fg F) 12)
theorem lm_l22e {p : Nat} {F : Nat → Nat → Int} (hk : k ≤ 4) (h12 : m 203 32 = Int32.ofNat k) (hF : ∀ i c, i < k → c < 256 → m (233 + i) c = Int32.ofNat (F i c).toNat ∧ (F i c).toNat < 2 ^ 12) (hT : m 203 24 = Int32.ofNat 0) : ∃ m', lm_I356 F m k m' ∧ ∀ R, lm_rn sc (d + 6) lm_m22.2.2.2.2.1 (lm_reg lm_m22.2.2.2.2.2) (356, [(0, .ref 203), (2, .int (Int32.ofNat p)), (3, .int (Int32.ofNat k))], []) (lm_w m' n x) = some R → lm_rn sc (d + 6) lm_m22.2.2.2.2.1 (lm_reg lm_m22.2.2.2.2.2) (356, [(0, .ref 203), (2, .int (Int32.ofNat p)), (3, .int (Int32.ofNat 0))], []) (lm_w m n x) = some R := by
  obtain ⟨m', n', ⟨en, h1⟩, k1⟩ := lm_lp (sc := sc) (d := d + 6) (b := k) (hs := lm_m22.2.2.2.2.1) (code := lm_reg lm_m22.2.2.2.2.2) (x := x) (fr := fun i => (356, [(0, .ref 203), (2, .int (Int32.ofNat p)), (3, .int (Int32.ofNat i))], [])) (I := fun i m' n' => n' = n ∧ lm_I356 F m i m') (fun i hi m1 n1 ⟨en, g1, g2, g3, g4⟩ => by
    subst en
    obtain ⟨m2, n2, ⟨en, a1, a2, a3, a4⟩, k2⟩ := lm_lp (sc := sc) (d := d + 6) (b := 256) (hs := lm_m22.2.2.2.2.1) (code := lm_reg lm_m22.2.2.2.2.2) (x := x) (fr := fun c => (367, [(0, .ref 203), (2, .int (Int32.ofNat p)), (3, .int (Int32.ofNat i)), (4, .int (Int32.ofNat c))], [])) (I := fun c m' n' => n' = n1 ∧ (∀ r, r ≠ 203 → r ≠ 208 → m' r = m r) ∧ (∀ j, j ≠ 24 → m' 203 j = m 203 j) ∧ m' 203 24 = Int32.ofNat (12 * (256 * i + c)) ∧ lm_PB m' 208 0 (12 * (256 * i + c)) (lm_ts (lm_Fg F) 12)) (fun c hc m3 n3 ⟨en, h1, h2, h3, h4⟩ => by
      obtain ⟨b1, b2⟩ := hF i c hi hc
      obtain ⟨m4, c4, p4, t4, f4, o4, _⟩ := lm_put1 (sc := sc) (d := d + 5) (n := n3) (x := x) (q := 208) (v := 65536) (F := lm_Fg F) (c := 256 * i + c) (w := 12) rfl (by decide) (by decide) h3 (by omega) (by decide) (by decide) h4 (by rw [lm_Fg_at hc]; exact b2)
      rw [lm_Fg_at hc] at c4
      refine ⟨m4, n3, ⟨en, fun r r1 r2 => (f4 r r1 r2).trans (h1 r r1 r2), fun j hj => (o4 j hj).trans (h2 j hj), t4, p4⟩, fun R K => lm_e22_367 ?_⟩
      unfold lm_q22_367
      rw [lm_K256, lm_K2, lm_K0, lm_K12]
      refine lm_geF (by omega) (by omega) (by omega) ?_
      repeat (first
    | ((with_reducible apply lm_sI); exact rfl)
    | ((with_reducible apply lm_sR); exact rfl)
    | ((with_reducible apply lm_sS); exact rfl; exact rfl)
    | ((with_reducible apply lm_sL); exact rfl)
    | ((with_reducible apply lm_sP); exact rfl; exact rfl)
    | ((with_reducible apply lm_sPL); exact rfl; exact rfl)
    | ((with_reducible apply lm_sAA); exact rfl; exact rfl)
    | ((with_reducible apply lm_sA); (first | exact rfl | assumption); omega)
    | ((with_reducible apply lm_sJ); (first | exact rfl | assumption); omega)
    | ((with_reducible apply lm_sB); (first | exact rfl | assumption); omega)
    | ((with_reducible apply lm_wA); (first | exact rfl | assumption); omega)
    | ((with_reducible apply lm_wJ); (first | exact rfl | assumption); omega)
    | ((with_reducible apply lm_wB); (first | exact rfl | assumption); omega)
    | ((with_reducible apply lm_sAl); (first | exact rfl | assumption); omega)
    | ((with_reducible apply lm_iW); decide))
      refine lm_sAA rfl (lm_roF i (by omega)) ?_
      refine lm_sA (lm_arF i (by omega)) hc ?_
      repeat (first
    | ((with_reducible apply lm_sI); exact rfl)
    | ((with_reducible apply lm_sR); exact rfl)
    | ((with_reducible apply lm_sS); exact rfl; exact rfl)
    | ((with_reducible apply lm_sL); exact rfl)
    | ((with_reducible apply lm_sP); exact rfl; exact rfl)
    | ((with_reducible apply lm_sPL); exact rfl; exact rfl)
    | ((with_reducible apply lm_sAA); exact rfl; exact rfl)
    | ((with_reducible apply lm_sA); (first | exact rfl | assumption); omega)
    | ((with_reducible apply lm_sJ); (first | exact rfl | assumption); omega)
    | ((with_reducible apply lm_sB); (first | exact rfl | assumption); omega)
    | ((with_reducible apply lm_wA); (first | exact rfl | assumption); omega)
    | ((with_reducible apply lm_wJ); (first | exact rfl | assumption); omega)
    | ((with_reducible apply lm_wB); (first | exact rfl | assumption); omega)
    | ((with_reducible apply lm_sAl); (first | exact rfl | assumption); omega)
    | ((with_reducible apply lm_iW); decide))
      rw [h1 (233 + i) (by omega) (by omega), b1]
      refine lm_cV c4 ?_
      rw [lm_K1, lm_oo]
      exact K) 256 0 (by omega) m1 n1 ⟨rfl, g1, g2, g3, g4⟩
    subst en
    refine ⟨m2, n2, ⟨rfl, a1, a2, a3, a4⟩, fun R K => lm_e22_356 ?_⟩
    unfold lm_q22_356
    repeat (first
    | ((with_reducible apply lm_sI); exact rfl)
    | ((with_reducible apply lm_sR); exact rfl)
    | ((with_reducible apply lm_sS); exact rfl; exact rfl)
    | ((with_reducible apply lm_sL); exact rfl)
    | ((with_reducible apply lm_sP); exact rfl; exact rfl)
    | ((with_reducible apply lm_sPL); exact rfl; exact rfl)
    | ((with_reducible apply lm_sAA); exact rfl; exact rfl)
    | ((with_reducible apply lm_sA); (first | exact rfl | assumption); omega)
    | ((with_reducible apply lm_sJ); (first | exact rfl | assumption); omega)
    | ((with_reducible apply lm_sB); (first | exact rfl | assumption); omega)
    | ((with_reducible apply lm_wA); (first | exact rfl | assumption); omega)
    | ((with_reducible apply lm_wJ); (first | exact rfl | assumption); omega)
    | ((with_reducible apply lm_wB); (first | exact rfl | assumption); omega)
    | ((with_reducible apply lm_sAl); (first | exact rfl | assumption); omega)
    | ((with_reducible apply lm_iW); decide))
    simp only [Nat.reduceDiv, Nat.reduceMod]
    rw [g2 32 (by decide), h12]
    refine lm_geF (by omega) (by omega) (by omega) ?_
    rw [lm_K0]
    refine k2 R (lm_e22_367 ?_)
    unfold lm_q22_367
    rw [lm_K256]
    refine lm_geT (by omega) (by omega) (by omega) ?_
    rw [lm_K1, lm_oo]
    exact K) k 0 (by omega) m n ⟨rfl, fun _ _ _ => rfl, fun _ _ => rfl, hT, ⟨fun t ht => absurd ht (by omega), fun t _ _ h => absurd (by decide) h⟩⟩
  subst en
  exact ⟨m', h1, k1⟩
end LMRE
