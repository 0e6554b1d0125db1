/-! ===== dsaVerify of the class: verify ===== -/
def ln_vR (C : lm_CX) (K : Nat → Int32) (s : Nat) : Nat → Int32 := lm_Hm C 12 (fun t => lm_b8 (K t)) (32 + 320 * lm_dk s)
def lm_vM (C : lm_CX) (K : Nat → Int32) (s kk : Nat) (X : Nat → Int32) (xl : Nat) (Mg : Nat → Int32) (ml : Nat) : Nat → Int32 := lm_Hm C 12 (lm_mG (ln_vR C K s) 0 (lm_sgn C kk X xl Mg ml)) (64 + lm_sgl kk xl ml)
def lm_vB (C : lm_CX) (Q : Nat → Int32) (s : Nat) : Nat × (Nat → Int) := lm_ba (lm_Hm C 12 (fun t => lm_b8 (Q t)) (lm_dsz s)) (lm_dt' s) 121
def ln_vw (C : lm_CX) (K Q : Nat → Int32) (s i c : Nat) : Int := ln_vW (lm_xAm C K) (lm_vz Q s) (lm_vB C Q s).2 (ln_v1 K) (lm_dl s) i c
def lm_vu (C : lm_CX) (K Q : Nat → Int32) (s i c : Nat) : Int := lm_uh (lm_dg2 s) (lm_mq s) (ln_vw C K Q s i c) (ln_fl (lm_vh Q s) (lm_pv (lm_vc Q s) i) (lm_vc Q s i - lm_pv (lm_vc Q s) i) c)
def lm_vC (C : lm_CX) (K Q V : Nat → Int32) (s : Nat) : Nat → Int32 := lm_Hm C 12 (lm_cG V (lm_vu C K Q s) (lm_hb s)) (64 + 32 * lm_hb s * lm_dk s)
theorem ln_vw_b {C : lm_CX} {K Q : Nat → Int32} {s i c : Nat} : 0 ≤ ln_vw C K Q s i c ∧ ln_vw C K Q s i c < 8380417 := by
  unfold ln_vw
  exact ln_vW_b
theorem lm_vB_b {C : lm_CX} {Q : Nat → Int32} {s : Nat} (hs : s ≤ 2) (c : Nat) : -1 ≤ (lm_vB C Q s).2 c ∧ (lm_vB C Q s).2 c ≤ 1 := by
  have hpar := lm_dpar s hs
  unfold lm_vB lm_ba
  exact (lm_bl_b (by omega) 121).2 c
section LMVE
variable {xs : List Int32} {C : lm_CX} {d s kk xl ml : Nat} {m : lm_MI} {n : lm_ML} {x : lm_H × Nat × Nat} {X : Nat → Int32}
theorem lm_l175a {Z : Nat → Nat → Int} (hs : s ≤ 2) (h : lm_DC m s) (hz : ∀ k, k < 256 → m 77 k = Int32.ofInt (lm_zd k)) (hZ : ∀ t, t < lm_dl s → ∀ c, c < 256 → m (161 + t) c = Int32.ofInt (Z t c) ∧ -524288 ≤ Z t c ∧ Z t c ≤ 524288) : ∃ m', (∀ r, (r < 161 ∨ 167 < r) → m' r = m r) ∧ (∀ t, t < lm_dl s → lm_pts m' (161 + t) (Z t)) ∧ ∀ R, lm_rn (lm_sc xs) (d + 6) lm_m175.2.2.2.2.1 (lm_reg lm_m175.2.2.2.2.2) (47, [(0, .ref 76), (1, .ref 29), (3, .ref 37), (4, .ref 38), (5, .int (Int32.ofNat (lm_dl s)))], []) (lm_w m' n x) = some R → lm_rn (lm_sc xs) (d + 6) lm_m175.2.2.2.2.1 (lm_reg lm_m175.2.2.2.2.2) (47, [(0, .ref 76), (1, .ref 29), (3, .ref 37), (4, .ref 38), (5, .int (Int32.ofNat 0))], []) (lm_w m n x) = some R := by
  have hkl := lm_dkl hs
  obtain ⟨m', n', ⟨en, h0, h1, h2⟩, k1⟩ := lm_lp (sc := lm_sc xs) (d := d + 6) (b := lm_dl s) (hs := lm_m175.2.2.2.2.1) (code := lm_reg lm_m175.2.2.2.2.2) (x := x) (fr := fun t => (47, [(0, .ref 76), (1, .ref 29), (3, .ref 37), (4, .ref 38), (5, .int (Int32.ofNat t))], [])) (I := fun t m' n' => n' = n ∧ (∀ r, (r < 161 ∨ 167 < r) → m' r = m r) ∧ (∀ t', t' < t → lm_pts m' (161 + t') (Z t')) ∧ ∀ t', t ≤ t' → m' (161 + t') = m (161 + t')) (fun t ht m1 n1 ⟨en, h0, h1, h2⟩ => by
    have e76 : m1 76 = m 76 := h0 76 (by omega)
    obtain ⟨m2, U, c2, p2, u2, b2⟩ := lm_u236 (sc := lm_sc xs) (d := d + 5) (m := m1) (n := n1) (x := x) (p := 161 + t) (G := Z t) (B := 524288) (lm_arM7 t (by omega)).1 (by omega) (fun k hk => by rw [h0 77 (by omega)]; exact hz k hk) (by decide) (fun c hc => (hZ t ht c hc).2) (fun c hc => by rw [h2 t (by omega)]; exact (hZ t ht c hc).1)
    refine ⟨m2, n1, ⟨en, fun r hr => by rw [p2.1 r (by omega), h0 r hr], fun t' ht' => ?_, fun t' ht' => by rw [p2.1 _ (by omega), h2 t' (by omega)]⟩, fun R K => lm_e175_47 ?_⟩
    · by_cases c0 : t' = t
      · subst c0
        intro c hc
        have b := b2 c hc
        rw [p2.2 c hc, lm_iT0 (by omega) (by omega)]
        exact ⟨u2 c hc, by omega, by omega⟩
      · exact lm_pts_of (h1 t' (by omega)) (p2.1 _ (by omega))
    · clear h1 h2 hZ
      unfold lm_q175_47
      repeat (first
    | ((with_reducible apply lm_sI); exact rfl)
    | ((with_reducible apply lm_sR); exact rfl)
    | ((with_reducible apply lm_sS); exact rfl; exact rfl)
    | ((with_reducible apply lm_sL); exact rfl)
    | ((with_reducible apply lm_sP); exact rfl; exact rfl)
    | ((with_reducible apply lm_sPL); exact rfl; exact rfl)
    | ((with_reducible apply lm_sAA); exact rfl; exact rfl)
    | ((with_reducible apply lm_sA); (first | exact rfl | assumption); omega)
    | ((with_reducible apply lm_sJ); (first | exact rfl | assumption); omega)
    | ((with_reducible apply lm_sB); (first | exact rfl | assumption); omega)
    | ((with_reducible apply lm_wA); (first | exact rfl | assumption); omega)
    | ((with_reducible apply lm_wJ); (first | exact rfl | assumption); omega)
    | ((with_reducible apply lm_wB); (first | exact rfl | assumption); omega)
    | ((with_reducible apply lm_sAl); (first | exact rfl | assumption); omega)
    | ((with_reducible apply lm_iW); decide))
      simp only [Nat.reduceDiv, Nat.reduceMod]
      rw [e76, h.2.2]
      refine lm_geF (by omega) (by omega) (by omega) ?_
      repeat (first
    | ((with_reducible apply lm_sI); exact rfl)
    | ((with_reducible apply lm_sR); exact rfl)
    | ((with_reducible apply lm_sS); exact rfl; exact rfl)
    | ((with_reducible apply lm_sL); exact rfl)
    | ((with_reducible apply lm_sP); exact rfl; exact rfl)
    | ((with_reducible apply lm_sPL); exact rfl; exact rfl)
    | ((with_reducible apply lm_sAA); exact rfl; exact rfl)
    | ((with_reducible apply lm_sA); (first | exact rfl | assumption); omega)
    | ((with_reducible apply lm_sJ); (first | exact rfl | assumption); omega)
    | ((with_reducible apply lm_sB); (first | exact rfl | assumption); omega)
    | ((with_reducible apply lm_wA); (first | exact rfl | assumption); omega)
    | ((with_reducible apply lm_wJ); (first | exact rfl | assumption); omega)
    | ((with_reducible apply lm_wB); (first | exact rfl | assumption); omega)
    | ((with_reducible apply lm_sAl); (first | exact rfl | assumption); omega)
    | ((with_reducible apply lm_iW); decide))
      refine lm_sAA rfl (lm_roM7 t (by omega)).1 ?_
      repeat (first
    | ((with_reducible apply lm_sI); exact rfl)
    | ((with_reducible apply lm_sR); exact rfl)
    | ((with_reducible apply lm_sS); exact rfl; exact rfl)
    | ((with_reducible apply lm_sL); exact rfl)
    | ((with_reducible apply lm_sP); exact rfl; exact rfl)
    | ((with_reducible apply lm_sPL); exact rfl; exact rfl)
    | ((with_reducible apply lm_sAA); exact rfl; exact rfl)
    | ((with_reducible apply lm_sA); (first | exact rfl | assumption); omega)
    | ((with_reducible apply lm_sJ); (first | exact rfl | assumption); omega)
    | ((with_reducible apply lm_sB); (first | exact rfl | assumption); omega)
    | ((with_reducible apply lm_wA); (first | exact rfl | assumption); omega)
    | ((with_reducible apply lm_wJ); (first | exact rfl | assumption); omega)
    | ((with_reducible apply lm_wB); (first | exact rfl | assumption); omega)
    | ((with_reducible apply lm_sAl); (first | exact rfl | assumption); omega)
    | ((with_reducible apply lm_iW); decide))
      refine lm_cV c2 ?_
      rw [lm_K1, lm_oo]
      exact K) (lm_dl s) 0 (by omega) m n ⟨rfl, fun _ _ => rfl, fun t' ht' => absurd ht' (by omega), fun _ _ => rfl⟩
  subst en
  exact ⟨m', h0, h1, k1⟩
theorem lm_l175b {Z : Nat → Nat → Int} {Bc : Nat → Int} {Am : Nat → Nat → Nat → Int} (hs : s ≤ 2) (h : lm_DC m s) (hz : ∀ k, k < 256 → m 77 k = Int32.ofInt (lm_zd k)) (hA : ∀ i t, i < lm_dk s → t < lm_dl s → ∀ c, c < 256 → m (79 + (i * lm_dl s + t)) c = Int32.ofInt (Am i t c) ∧ 0 ≤ Am i t c ∧ Am i t c ≤ 8380416) (hU : ∀ t, t < lm_dl s → lm_pts m (161 + t) (Z t)) (hB : lm_pts m 185 Bc) : ∃ m', (∀ r, (r < 177 ∨ 184 < r) → r ≠ 186 → m' r = m r) ∧ (∀ i, i < lm_dk s → ∀ c, c < 256 → m' (177 + i) c = Int32.ofInt (ln_vW Am Z Bc (ln_v1 (m 29)) (lm_dl s) i c)) ∧ ∀ R, lm_rn (lm_sc xs) (d + 6) lm_m175.2.2.2.2.1 (lm_reg lm_m175.2.2.2.2.2) (76, [(0, .ref 76), (1, .ref 29), (3, .ref 37), (4, .ref 38), (5, .int (Int32.ofNat (lm_dk s)))], []) (lm_w m' n x) = some R → lm_rn (lm_sc xs) (d + 6) lm_m175.2.2.2.2.1 (lm_reg lm_m175.2.2.2.2.2) (76, [(0, .ref 76), (1, .ref 29), (3, .ref 37), (4, .ref 38), (5, .int (Int32.ofNat 0))], []) (lm_w m n x) = some R := by
  have hkl := lm_dkl hs
  obtain ⟨m', n', ⟨en, h0, h1⟩, k1⟩ := lm_lp (sc := lm_sc xs) (d := d + 6) (b := lm_dk s) (hs := lm_m175.2.2.2.2.1) (code := lm_reg lm_m175.2.2.2.2.2) (x := x) (fr := fun i => (76, [(0, .ref 76), (1, .ref 29), (3, .ref 37), (4, .ref 38), (5, .int (Int32.ofNat i))], [])) (I := fun i m' n' => n' = n ∧ (∀ r, (r < 177 ∨ 184 < r) → r ≠ 186 → m' r = m r) ∧ ∀ i', i' < i → ∀ c, c < 256 → m' (177 + i') c = Int32.ofInt (ln_vW Am Z Bc (ln_v1 (m 29)) (lm_dl s) i' c)) (fun i hi m1 n1 ⟨en, h0, h1⟩ => by
    have hil : i * lm_dl s + lm_dl s ≤ 8 * 7 := by
      rw [← Nat.succ_mul]
      exact Nat.mul_le_mul (by omega) hkl.2.1
    have e76 : m1 76 = m 76 := h0 76 (by omega) (by omega)
    obtain ⟨m2, c2, f2, v2⟩ := lm_u255 (xs := xs) (d := d + 3) (m := m1) (n := n1) (x := x) (s := s) (i := i) (Am := Am) (Z := Z) (Bc := Bc) hs hi (by unfold lm_DC; rw [e76]; exact h) (fun k hk => by rw [h0 77 (by omega) (by omega)]; exact hz k hk) (fun t ht c hc => by rw [h0 _ (by omega) (by omega)]; exact hA i t hi ht c hc) (fun t ht => lm_pts_of (hU t ht) (h0 _ (by omega) (by omega))) (lm_pts_of hB (h0 185 (by omega) (by omega)))
    rw [h0 29 (by omega) (by omega)] at v2
    refine ⟨m2, n1, ⟨en, fun r hr q => by rw [f2 r q (by omega), h0 r hr q], fun i' hi' c hc => ?_⟩, fun R K => lm_e175_76 ?_⟩
    · by_cases c0 : i' = i
      · subst c0; exact v2 c hc
      · rw [f2 _ (by omega) (by omega)]; exact h1 i' (by omega) c hc
    · clear h1 v2 hA
      unfold lm_q175_76
      repeat (first
    | ((with_reducible apply lm_sI); exact rfl)
    | ((with_reducible apply lm_sR); exact rfl)
    | ((with_reducible apply lm_sS); exact rfl; exact rfl)
    | ((with_reducible apply lm_sL); exact rfl)
    | ((with_reducible apply lm_sP); exact rfl; exact rfl)
    | ((with_reducible apply lm_sPL); exact rfl; exact rfl)
    | ((with_reducible apply lm_sAA); exact rfl; exact rfl)
    | ((with_reducible apply lm_sA); (first | exact rfl | assumption); omega)
    | ((with_reducible apply lm_sJ); (first | exact rfl | assumption); omega)
    | ((with_reducible apply lm_sB); (first | exact rfl | assumption); omega)
    | ((with_reducible apply lm_wA); (first | exact rfl | assumption); omega)
    | ((with_reducible apply lm_wJ); (first | exact rfl | assumption); omega)
    | ((with_reducible apply lm_wB); (first | exact rfl | assumption); omega)
    | ((with_reducible apply lm_sAl); (first | exact rfl | assumption); omega)
    | ((with_reducible apply lm_iW); decide))
      simp only [Nat.reduceDiv, Nat.reduceMod]
      rw [e76, h.2.1]
      refine lm_geF (by omega) (by omega) (by omega) ?_
      repeat (first
    | ((with_reducible apply lm_sI); exact rfl)
    | ((with_reducible apply lm_sR); exact rfl)
    | ((with_reducible apply lm_sS); exact rfl; exact rfl)
    | ((with_reducible apply lm_sL); exact rfl)
    | ((with_reducible apply lm_sP); exact rfl; exact rfl)
    | ((with_reducible apply lm_sPL); exact rfl; exact rfl)
    | ((with_reducible apply lm_sAA); exact rfl; exact rfl)
    | ((with_reducible apply lm_sA); (first | exact rfl | assumption); omega)
    | ((with_reducible apply lm_sJ); (first | exact rfl | assumption); omega)
    | ((with_reducible apply lm_sB); (first | exact rfl | assumption); omega)
    | ((with_reducible apply lm_wA); (first | exact rfl | assumption); omega)
    | ((with_reducible apply lm_wJ); (first | exact rfl | assumption); omega)
    | ((with_reducible apply lm_wB); (first | exact rfl | assumption); omega)
    | ((with_reducible apply lm_sAl); (first | exact rfl | assumption); omega)
    | ((with_reducible apply lm_iW); decide))
      refine lm_cV c2 ?_
      rw [lm_K1, lm_oo]
      exact K) (lm_dk s) 0 (by omega) m n ⟨rfl, fun _ _ _ => rfl, fun i' hi' => absurd hi' (by omega)⟩
  subst en
  exact ⟨m', h0, h1, k1⟩
theorem lm_l175c {W : Nat → Nat → Int} {G : Nat → Int32} (hC : lm_Cok xs C) (hs : s ≤ 2) (h : lm_DC m s) (hW : ∀ i, i < lm_dk s → ∀ c, c < 256 → m (177 + i) c = Int32.ofInt (W i c) ∧ 0 ≤ W i c ∧ W i c < ((2 ^ lm_hb s : Nat) : Int)) (hG : ∀ t, G (64 + t) = ln_gp (lm_pkB W (lm_hb s)) t) (hS : lm_CS m n 12 (lm_MS C 12 G (64 + 32 * lm_hb s * 0))) : ∃ m' n', ((∀ r, (r < 5 ∨ 22 < r) → r ≠ 188 → m' r = m r) ∧ lm_fN m n m' n' ∧ lm_CS m' n' 12 (lm_MS C 12 G (64 + 32 * lm_hb s * lm_dk s))) ∧ ∀ R, lm_rn (lm_sc xs) (d + 6) lm_m175.2.2.2.2.1 (lm_reg lm_m175.2.2.2.2.2) (129, [(0, .ref 76), (3, .ref 37), (4, .ref 38), (5, .ref 5), (6, .int (Int32.ofNat (lm_dk s)))], []) (lm_w m' n' x) = some R → lm_rn (lm_sc xs) (d + 6) lm_m175.2.2.2.2.1 (lm_reg lm_m175.2.2.2.2.2) (129, [(0, .ref 76), (3, .ref 37), (4, .ref 38), (5, .ref 5), (6, .int (Int32.ofNat 0))], []) (lm_w m n x) = some R := by
  have hkl := lm_dkl hs
  have hpar := lm_dpar s hs
  refine lm_lp (sc := lm_sc xs) (d := d + 6) (b := lm_dk s) (hs := lm_m175.2.2.2.2.1) (code := lm_reg lm_m175.2.2.2.2.2) (x := x) (fr := fun i => (129, [(0, .ref 76), (3, .ref 37), (4, .ref 38), (5, .ref 5), (6, .int (Int32.ofNat i))], [])) (I := fun i m' n' => (∀ r, (r < 5 ∨ 22 < r) → r ≠ 188 → m' r = m r) ∧ lm_fN m n m' n' ∧ lm_CS m' n' 12 (lm_MS C 12 G (64 + 32 * lm_hb s * i))) (fun i hi m1 n1 ⟨g1, g2, g3⟩ => ?_) (lm_dk s) 0 (by omega) m n ⟨fun _ _ _ => rfl, .rf, hS⟩
  have e76 : m1 76 = m 76 := g1 76 (by decide) (by decide)
  have h17 : m1 76 17 = Int32.ofNat s := by rw [e76]; exact h.1
  obtain ⟨m2, c2, p2⟩ := lm_u219 (sc := lm_sc xs) (e := d + 5) (n := n1) (x := x) (m := m1) (p := 177 + i) (q := 188) (v := 640) (a := 0) (d := lm_hb s) (F := fun c => (W i c).toNat) rfl (lm_arW8 i (by omega)) (by omega) (by omega) (by omega) (by decide) (by omega) (fun c hc => by
    have b := hW i hi c hc
    exact ⟨by rw [g1 _ (by omega) (by omega), b.1, lm_oN, Int.toNat_of_nonneg b.2.1], by omega⟩)
  have h17'' : m2 76 17 = Int32.ofNat s := by rw [p2.1 76 (by decide)]; exact h17
  have S2 : lm_CS m2 n1 12 (lm_MS C 12 G (64 + 32 * lm_hb s * i)) := lm_CS_m (by decide) (by decide) g3 (fun r r1 r2 => by rw [p2.1 r (by omega)]) (fun _ _ _ => rfl)
  obtain ⟨m3, n3, k3, s3, f3⟩ := lm_cA (xs := xs) (d := d + 2) (x := x) (k := 12) (q := 188) (v := 640) (a := 0) (l := 32 * lm_hb s) (L := 64 + 32 * lm_hb s * i) (G := G) hC (by decide) (by decide) (by decide) rfl (by omega) (by decide) (fun t ht => by
    rw [Nat.add_assoc, hG]
    refine lm_gp_yb ?_ lm_pkB_lt
    rw [p2.2.2 t ht, lm_pkB_at (by omega)]) S2
  rw [Nat.add_assoc, ← Nat.mul_succ] at s3
  refine ⟨m3, n3, ⟨fun r q1 q2 => by rw [f3.1 r q1, p2.1 r q2, g1 r q1 q2], g2.tr ((lm_fN.of (p2.1 11 (by decide)) (p2.1 17 (by decide))).tr f3.N), s3⟩, fun R K => lm_e175_129 ?_⟩
  clear g3 s3 hW S2 hS
  unfold lm_q175_129
  repeat (first
    | ((with_reducible apply lm_sI); exact rfl)
    | ((with_reducible apply lm_sR); exact rfl)
    | ((with_reducible apply lm_sS); exact rfl; exact rfl)
    | ((with_reducible apply lm_sL); exact rfl)
    | ((with_reducible apply lm_sP); exact rfl; exact rfl)
    | ((with_reducible apply lm_sPL); exact rfl; exact rfl)
    | ((with_reducible apply lm_sAA); exact rfl; exact rfl)
    | ((with_reducible apply lm_sA); (first | exact rfl | assumption); omega)
    | ((with_reducible apply lm_sJ); (first | exact rfl | assumption); omega)
    | ((with_reducible apply lm_sB); (first | exact rfl | assumption); omega)
    | ((with_reducible apply lm_wA); (first | exact rfl | assumption); omega)
    | ((with_reducible apply lm_wJ); (first | exact rfl | assumption); omega)
    | ((with_reducible apply lm_wB); (first | exact rfl | assumption); omega)
    | ((with_reducible apply lm_sAl); (first | exact rfl | assumption); omega)
    | ((with_reducible apply lm_iW); decide))
  simp only [Nat.reduceDiv, Nat.reduceMod]
  rw [e76, h.2.1]
  refine lm_geF (by omega) (by omega) (by omega) ?_
  repeat (first
    | ((with_reducible apply lm_sI); exact rfl)
    | ((with_reducible apply lm_sR); exact rfl)
    | ((with_reducible apply lm_sS); exact rfl; exact rfl)
    | ((with_reducible apply lm_sL); exact rfl)
    | ((with_reducible apply lm_sP); exact rfl; exact rfl)
    | ((with_reducible apply lm_sPL); exact rfl; exact rfl)
    | ((with_reducible apply lm_sAA); exact rfl; exact rfl)
    | ((with_reducible apply lm_sA); (first | exact rfl | assumption); omega)
    | ((with_reducible apply lm_sJ); (first | exact rfl | assumption); omega)
    | ((with_reducible apply lm_sB); (first | exact rfl | assumption); omega)
    | ((with_reducible apply lm_wA); (first | exact rfl | assumption); omega)
    | ((with_reducible apply lm_wJ); (first | exact rfl | assumption); omega)
    | ((with_reducible apply lm_wB); (first | exact rfl | assumption); omega)
    | ((with_reducible apply lm_sAl); (first | exact rfl | assumption); omega)
    | ((with_reducible apply lm_iW); decide))
  refine lm_sAA rfl (lm_roW8 i (by omega)) ?_
  repeat (first
    | ((with_reducible apply lm_sI); exact rfl)
    | ((with_reducible apply lm_sR); exact rfl)
    | ((with_reducible apply lm_sS); exact rfl; exact rfl)
    | ((with_reducible apply lm_sL); exact rfl)
    | ((with_reducible apply lm_sP); exact rfl; exact rfl)
    | ((with_reducible apply lm_sPL); exact rfl; exact rfl)
    | ((with_reducible apply lm_sAA); exact rfl; exact rfl)
    | ((with_reducible apply lm_sA); (first | exact rfl | assumption); omega)
    | ((with_reducible apply lm_sJ); (first | exact rfl | assumption); omega)
    | ((with_reducible apply lm_sB); (first | exact rfl | assumption); omega)
    | ((with_reducible apply lm_wA); (first | exact rfl | assumption); omega)
    | ((with_reducible apply lm_wJ); (first | exact rfl | assumption); omega)
    | ((with_reducible apply lm_wB); (first | exact rfl | assumption); omega)
    | ((with_reducible apply lm_sAl); (first | exact rfl | assumption); omega)
    | ((with_reducible apply lm_iW); decide))
  refine lm_cI (lm_u257 (d := d + 5) hs h17) ?_
  repeat (first
    | ((with_reducible apply lm_sI); exact rfl)
    | ((with_reducible apply lm_sR); exact rfl)
    | ((with_reducible apply lm_sS); exact rfl; exact rfl)
    | ((with_reducible apply lm_sL); exact rfl)
    | ((with_reducible apply lm_sP); exact rfl; exact rfl)
    | ((with_reducible apply lm_sPL); exact rfl; exact rfl)
    | ((with_reducible apply lm_sAA); exact rfl; exact rfl)
    | ((with_reducible apply lm_sA); (first | exact rfl | assumption); omega)
    | ((with_reducible apply lm_sJ); (first | exact rfl | assumption); omega)
    | ((with_reducible apply lm_sB); (first | exact rfl | assumption); omega)
    | ((with_reducible apply lm_wA); (first | exact rfl | assumption); omega)
    | ((with_reducible apply lm_wJ); (first | exact rfl | assumption); omega)
    | ((with_reducible apply lm_wB); (first | exact rfl | assumption); omega)
    | ((with_reducible apply lm_sAl); (first | exact rfl | assumption); omega)
    | ((with_reducible apply lm_iW); decide))
  rw [lm_K0]
  refine lm_cV c2 ?_
  repeat (first
    | ((with_reducible apply lm_sI); exact rfl)
    | ((with_reducible apply lm_sR); exact rfl)
    | ((with_reducible apply lm_sS); exact rfl; exact rfl)
    | ((with_reducible apply lm_sL); exact rfl)
    | ((with_reducible apply lm_sP); exact rfl; exact rfl)
    | ((with_reducible apply lm_sPL); exact rfl; exact rfl)
    | ((with_reducible apply lm_sAA); exact rfl; exact rfl)
    | ((with_reducible apply lm_sA); (first | exact rfl | assumption); omega)
    | ((with_reducible apply lm_sJ); (first | exact rfl | assumption); omega)
    | ((with_reducible apply lm_sB); (first | exact rfl | assumption); omega)
    | ((with_reducible apply lm_wA); (first | exact rfl | assumption); omega)
    | ((with_reducible apply lm_wJ); (first | exact rfl | assumption); omega)
    | ((with_reducible apply lm_wB); (first | exact rfl | assumption); omega)
    | ((with_reducible apply lm_sAl); (first | exact rfl | assumption); omega)
    | ((with_reducible apply lm_iW); decide))
  refine lm_cI (lm_u257 (d := d + 5) hs h17'') ?_
  rw [lm_K32, lm_om]
  repeat (first
    | ((with_reducible apply lm_sI); exact rfl)
    | ((with_reducible apply lm_sR); exact rfl)
    | ((with_reducible apply lm_sS); exact rfl; exact rfl)
    | ((with_reducible apply lm_sL); exact rfl)
    | ((with_reducible apply lm_sP); exact rfl; exact rfl)
    | ((with_reducible apply lm_sPL); exact rfl; exact rfl)
    | ((with_reducible apply lm_sAA); exact rfl; exact rfl)
    | ((with_reducible apply lm_sA); (first | exact rfl | assumption); omega)
    | ((with_reducible apply lm_sJ); (first | exact rfl | assumption); omega)
    | ((with_reducible apply lm_sB); (first | exact rfl | assumption); omega)
    | ((with_reducible apply lm_wA); (first | exact rfl | assumption); omega)
    | ((with_reducible apply lm_wJ); (first | exact rfl | assumption); omega)
    | ((with_reducible apply lm_wB); (first | exact rfl | assumption); omega)
    | ((with_reducible apply lm_sAl); (first | exact rfl | assumption); omega)
    | ((with_reducible apply lm_iW); decide))
  refine lm_cV k3 ?_
  rw [lm_K1, lm_oo]
  exact K
end LMVE
