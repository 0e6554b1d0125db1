/-! ===== dsaVerify of the reference: the packet's polynomials ===== -/
theorem lm_be_e {s : Nat} (hs : s ≤ 2) : lm_dt' s * lm_de s = lm_be s := by
  match s, hs with
  | 0, _ => decide
  | 1, _ => decide
  | 2, _ => decide
section LMRB
variable {sc : lm_H} {C : lm_CX} {d s : Nat} {m : lm_MI} {n : lm_ML} {x : lm_H × Nat × Nat} {K Q : Nat → Int32} {w : Int32}
/-- a polynomial's bounds -/
theorem lm_l32c {t : Nat} {Z : Nat → Int} (hs : s ≤ 2) (ht : t < 7) (hR : lm_RD C s m n) (hE : lm_RE s m) (hZ : ∀ c, c < 256 → m (270 + t) c = Int32.ofInt (Z c) ∧ -524288 ≤ Z c ∧ Z c ≤ 524288) : ((∀ c, c < 256 → -((lm_dg1 s - lm_be s : Nat) : Int) < Z c ∧ Z c < (lm_dg1 s - lm_be s : Nat)) ∧ ∀ R, lm_rn sc (d + 7) lm_m32.2.2.2.2.1 (lm_reg lm_m32.2.2.2.2.2) (149, [(0, .ref 203), (2, .int w), (4, .int (Int32.ofNat (t + 1)))], []) (lm_w m n x) = some R → lm_rn sc (d + 7) lm_m32.2.2.2.2.1 (lm_reg lm_m32.2.2.2.2.2) (190, [(0, .ref 203), (2, .int w), (4, .int (Int32.ofNat t)), (5, .int (Int32.ofNat 0))], []) (lm_w m n x) = some R) ∨ ((∃ c, c < 256 ∧ ¬ (-((lm_dg1 s - lm_be s : Nat) : Int) < Z c ∧ Z c < (lm_dg1 s - lm_be s : Nat))) ∧ lm_rn sc (d + 7) lm_m32.2.2.2.2.1 (lm_reg lm_m32.2.2.2.2.2) (190, [(0, .ref 203), (2, .int w), (4, .int (Int32.ofNat t)), (5, .int (Int32.ofNat 0))], []) (lm_w m n x) = some (.ok (some (.int 0)), lm_w m n x)) := by
  have hpar := lm_dpar s hs
  have hbe := lm_be_e hs
  have e1 : Int32.ofNat (lm_dg1 s) - Int32.ofNat (lm_dt' s) * Int32.ofNat (lm_de s) = Int32.ofInt ((lm_dg1 s : Int) - (lm_be s : Int)) := by rw [lm_om, hbe, lm_oN, lm_oN, lm_iS]
  have e2 : Int32.ofNat (lm_dt' s) * Int32.ofNat (lm_de s) - Int32.ofNat (lm_dg1 s) = Int32.ofInt ((lm_be s : Int) - (lm_dg1 s : Int)) := by rw [lm_om, hbe, lm_oN, lm_oN, lm_iS]
  rcases lm_lpe (sc := sc) (d := d + 7) (b := 256) (hs := lm_m32.2.2.2.2.1) (code := lm_reg lm_m32.2.2.2.2.2) (x := x) (fr := fun c => (190, [(0, .ref 203), (2, .int w), (4, .int (Int32.ofNat t)), (5, .int (Int32.ofNat c))], [])) (I := fun c m' n' => m' = m ∧ n' = n ∧ ∀ c', c' < c → -((lm_dg1 s - lm_be s : Nat) : Int) < Z c' ∧ Z c' < (lm_dg1 s - lm_be s : Nat)) (E := fun R => R = (.ok (some (.int 0)), lm_w m n x) ∧ ∃ c, c < 256 ∧ ¬ (-((lm_dg1 s - lm_be s : Nat) : Int) < Z c ∧ Z c < (lm_dg1 s - lm_be s : Nat))) (fun c hc m1 n1 ⟨em, en, g⟩ => by
    subst em
    subst en
    have hz := hZ c hc
    have pre1 : ∀ R, (lm_if .ge (Int32.ofInt (Z c)) (Int32.ofInt ((lm_dg1 s : Int) - (lm_be s : Int))) (lm_when ((Int32.ofInt 0) = 0 ∨ (Int32.ofInt 0) = 1) inferInstance (lm_ret (some (.int (Int32.ofInt 0))))) (lm_bind (lm_gR 4554 203) fun v7 => lm_bind (lm_aaR sc v7 (Int32.ofNat t)) fun v8 => lm_bind (lm_iald sc v8 (Int32.ofNat c)) fun v9 => lm_bind (lm_gI 4576 203) fun v10 => lm_bind (lm_gI 4572 203) fun v11 => lm_bind (lm_gI 4580 203) fun v12 => lm_if .gt v9 ((v10 * v11) - v12) (lm_rn sc (d + 7) lm_m32.2.2.2.2.1 (lm_reg lm_m32.2.2.2.2.2) (190, [(0, .ref 203), (2, .int w), (4, .int (Int32.ofNat t)), (5, .int (Int32.ofNat c + Int32.ofInt 1))], [])) (lm_when ((Int32.ofInt 0) = 0 ∨ (Int32.ofInt 0) = 1) inferInstance (lm_ret (some (.int (Int32.ofInt 0))))))) (lm_w m1 n1 x) = some R → lm_rn sc (d + 7) lm_m32.2.2.2.2.1 (lm_reg lm_m32.2.2.2.2.2) (190, [(0, .ref 203), (2, .int w), (4, .int (Int32.ofNat t)), (5, .int (Int32.ofNat c))], []) (lm_w m1 n1 x) = some R := by
      intro R KK
      clear g hZ
      refine lm_e32_190 ?_
      unfold lm_q32_190
      rw [lm_K256]
      refine lm_geF (by omega) (by omega) (by omega) ?_
      repeat (first
    | ((with_reducible apply lm_sI); exact rfl)
    | ((with_reducible apply lm_sR); exact rfl)
    | ((with_reducible apply lm_sS); exact rfl; exact rfl)
    | ((with_reducible apply lm_sL); exact rfl)
    | ((with_reducible apply lm_sP); exact rfl; exact rfl)
    | ((with_reducible apply lm_sPL); exact rfl; exact rfl)
    | ((with_reducible apply lm_sAA); exact rfl; exact rfl)
    | ((with_reducible apply lm_sA); (first | exact rfl | assumption); omega)
    | ((with_reducible apply lm_sJ); (first | exact rfl | assumption); omega)
    | ((with_reducible apply lm_sB); (first | exact rfl | assumption); omega)
    | ((with_reducible apply lm_wA); (first | exact rfl | assumption); omega)
    | ((with_reducible apply lm_wJ); (first | exact rfl | assumption); omega)
    | ((with_reducible apply lm_wB); (first | exact rfl | assumption); omega)
    | ((with_reducible apply lm_sAl); (first | exact rfl | assumption); omega)
    | ((with_reducible apply lm_iW); decide))
      refine lm_sAA rfl (lm_roY t (by omega)) ?_
      refine lm_sA (lm_arY t (by omega)) hc ?_
      repeat (first
    | ((with_reducible apply lm_sI); exact rfl)
    | ((with_reducible apply lm_sR); exact rfl)
    | ((with_reducible apply lm_sS); exact rfl; exact rfl)
    | ((with_reducible apply lm_sL); exact rfl)
    | ((with_reducible apply lm_sP); exact rfl; exact rfl)
    | ((with_reducible apply lm_sPL); exact rfl; exact rfl)
    | ((with_reducible apply lm_sAA); exact rfl; exact rfl)
    | ((with_reducible apply lm_sA); (first | exact rfl | assumption); omega)
    | ((with_reducible apply lm_sJ); (first | exact rfl | assumption); omega)
    | ((with_reducible apply lm_sB); (first | exact rfl | assumption); omega)
    | ((with_reducible apply lm_wA); (first | exact rfl | assumption); omega)
    | ((with_reducible apply lm_wJ); (first | exact rfl | assumption); omega)
    | ((with_reducible apply lm_wB); (first | exact rfl | assumption); omega)
    | ((with_reducible apply lm_sAl); (first | exact rfl | assumption); omega)
    | ((with_reducible apply lm_iW); decide))
      simp only [Nat.reduceDiv, Nat.reduceMod]
      rw [hz.1, hE.2.1, hE.1, hR.2.2.2.1, e1]
      exact KK
    have pre2 : ∀ R, (lm_if .gt (Int32.ofInt (Z c)) (Int32.ofInt ((lm_be s : Int) - (lm_dg1 s : Int))) (lm_rn sc (d + 7) lm_m32.2.2.2.2.1 (lm_reg lm_m32.2.2.2.2.2) (190, [(0, .ref 203), (2, .int w), (4, .int (Int32.ofNat t)), (5, .int (Int32.ofNat (c + 1)))], [])) (lm_when ((Int32.ofInt 0) = 0 ∨ (Int32.ofInt 0) = 1) inferInstance (lm_ret (some (.int (Int32.ofInt 0)))))) (lm_w m1 n1 x) = some R → (lm_bind (lm_gR 4554 203) fun v7 => lm_bind (lm_aaR sc v7 (Int32.ofNat t)) fun v8 => lm_bind (lm_iald sc v8 (Int32.ofNat c)) fun v9 => lm_bind (lm_gI 4576 203) fun v10 => lm_bind (lm_gI 4572 203) fun v11 => lm_bind (lm_gI 4580 203) fun v12 => lm_if .gt v9 ((v10 * v11) - v12) (lm_rn sc (d + 7) lm_m32.2.2.2.2.1 (lm_reg lm_m32.2.2.2.2.2) (190, [(0, .ref 203), (2, .int w), (4, .int (Int32.ofNat t)), (5, .int (Int32.ofNat c + Int32.ofInt 1))], [])) (lm_when ((Int32.ofInt 0) = 0 ∨ (Int32.ofInt 0) = 1) inferInstance (lm_ret (some (.int (Int32.ofInt 0)))))) (lm_w m1 n1 x) = some R := by
      intro R KK
      clear g hZ
      repeat (first
    | ((with_reducible apply lm_sI); exact rfl)
    | ((with_reducible apply lm_sR); exact rfl)
    | ((with_reducible apply lm_sS); exact rfl; exact rfl)
    | ((with_reducible apply lm_sL); exact rfl)
    | ((with_reducible apply lm_sP); exact rfl; exact rfl)
    | ((with_reducible apply lm_sPL); exact rfl; exact rfl)
    | ((with_reducible apply lm_sAA); exact rfl; exact rfl)
    | ((with_reducible apply lm_sA); (first | exact rfl | assumption); omega)
    | ((with_reducible apply lm_sJ); (first | exact rfl | assumption); omega)
    | ((with_reducible apply lm_sB); (first | exact rfl | assumption); omega)
    | ((with_reducible apply lm_wA); (first | exact rfl | assumption); omega)
    | ((with_reducible apply lm_wJ); (first | exact rfl | assumption); omega)
    | ((with_reducible apply lm_wB); (first | exact rfl | assumption); omega)
    | ((with_reducible apply lm_sAl); (first | exact rfl | assumption); omega)
    | ((with_reducible apply lm_iW); decide))
      refine lm_sAA rfl (lm_roY t (by omega)) ?_
      refine lm_sA (lm_arY t (by omega)) hc ?_
      repeat (first
    | ((with_reducible apply lm_sI); exact rfl)
    | ((with_reducible apply lm_sR); exact rfl)
    | ((with_reducible apply lm_sS); exact rfl; exact rfl)
    | ((with_reducible apply lm_sL); exact rfl)
    | ((with_reducible apply lm_sP); exact rfl; exact rfl)
    | ((with_reducible apply lm_sPL); exact rfl; exact rfl)
    | ((with_reducible apply lm_sAA); exact rfl; exact rfl)
    | ((with_reducible apply lm_sA); (first | exact rfl | assumption); omega)
    | ((with_reducible apply lm_sJ); (first | exact rfl | assumption); omega)
    | ((with_reducible apply lm_sB); (first | exact rfl | assumption); omega)
    | ((with_reducible apply lm_wA); (first | exact rfl | assumption); omega)
    | ((with_reducible apply lm_wJ); (first | exact rfl | assumption); omega)
    | ((with_reducible apply lm_wB); (first | exact rfl | assumption); omega)
    | ((with_reducible apply lm_sAl); (first | exact rfl | assumption); omega)
    | ((with_reducible apply lm_iW); decide))
      simp only [Nat.reduceDiv, Nat.reduceMod]
      rw [hz.1, hE.2.1, hE.1, hR.2.2.2.1, e2, lm_K1, lm_oo]
      exact KK
    by_cases cg : (lm_dg1 s : Int) - (lm_be s : Int) ≤ Z c
    · exact Or.inr ⟨_, ⟨rfl, c, hc, by omega⟩, pre1 _ (lm_zgeT (by omega) (by omega) cg (lm_iW (by decide) rfl))⟩
    · by_cases cl : (lm_be s : Int) - (lm_dg1 s : Int) < Z c
      · refine Or.inl ⟨m1, n1, ⟨rfl, rfl, fun c' hc' => ?_⟩, fun R KK => pre1 R (lm_zgeF (by omega) (by omega) cg (pre2 R (lm_zgtT (by omega) (by omega) cl KK)))⟩
        by_cases c0 : c' = c
        · subst c0; omega
        · exact g c' (by omega)
      · exact Or.inr ⟨_, ⟨rfl, c, hc, by omega⟩, pre1 _ (lm_zgeF (by omega) (by omega) cg (pre2 _ (lm_zgtF (by omega) (by omega) cl (lm_iW (by decide) rfl))))⟩) 256 0 (by omega) m n ⟨rfl, rfl, fun c' hc' => absurd hc' (by omega)⟩ with ⟨m1, n1, ⟨em, en, g⟩, k1⟩ | ⟨R, ⟨eR, q⟩, k1⟩
  · subst em
    subst en
    refine Or.inl ⟨g, fun R KK => k1 R (lm_e32_190 ?_)⟩
    unfold lm_q32_190
    rw [lm_K256]
    refine lm_geT (by omega) (by omega) (by omega) ?_
    rw [lm_K1, lm_oo]
    exact KK
  · rw [eR] at k1
    exact Or.inr ⟨q, k1⟩
theorem lm_l32a (hs : s ≤ 2) (hR : lm_RD C s m n) (hE : lm_RE s m) (h24 : m 203 24 = Int32.ofNat 0) (hQ : ∀ u, u < lm_dps s → lm_b8 (m 211 u) = lm_b8 (Q u)) : (∃ m', ((∀ r, r ≠ 203 → (r < 270 ∨ 276 < r) → m' r = m r) ∧ (∀ j, j ≠ 24 → m' 203 j = m 203 j) ∧ (∀ t, t < lm_dl s → ∀ c, c < 256 → m' (270 + t) c = Int32.ofInt (lm_vz Q s t c)) ∧ lm_vzo Q s) ∧ ∀ R, lm_rn sc (d + 7) lm_m32.2.2.2.2.1 (lm_reg lm_m32.2.2.2.2.2) (149, [(0, .ref 203), (2, .int w), (4, .int (Int32.ofNat (lm_dl s)))], []) (lm_w m' n x) = some R → lm_rn sc (d + 7) lm_m32.2.2.2.2.1 (lm_reg lm_m32.2.2.2.2.2) (149, [(0, .ref 203), (2, .int w), (4, .int (Int32.ofNat 0))], []) (lm_w m n x) = some R) ∨ ∃ m', ((∀ r, r ≠ 203 → (r < 270 ∨ 276 < r) → m' r = m r) ∧ (∀ j, j ≠ 24 → m' 203 j = m 203 j) ∧ ¬ lm_vzo Q s) ∧ lm_rn sc (d + 7) lm_m32.2.2.2.2.1 (lm_reg lm_m32.2.2.2.2.2) (149, [(0, .ref 203), (2, .int w), (4, .int (Int32.ofNat 0))], []) (lm_w m n x) = some (.ok (some (.int 0)), lm_w m' n x) := by
  have hkl := lm_dkl hs
  have hpar := lm_dpar s hs
  have hps := lm_dps_e s
  have hP := lm_vPb hs
  have e8 : ∀ t, lm_dw s * (256 * t) = 8 * (32 * lm_dw s * t) := fun t => by
    rw [← Nat.mul_assoc, ← Nat.mul_assoc, ← Nat.mul_assoc, Nat.mul_comm (lm_dw s) 256]
  have hat : ∀ t, t ≤ lm_dl s → 32 * lm_dw s * t ≤ 32 * lm_dw s * lm_dl s := fun t ht => Nat.mul_le_mul_left _ ht
  rcases lm_lpe (sc := sc) (d := d + 7) (b := lm_dl s) (hs := lm_m32.2.2.2.2.1) (code := lm_reg lm_m32.2.2.2.2.2) (x := x) (fr := fun t => (149, [(0, .ref 203), (2, .int w), (4, .int (Int32.ofNat t))], [])) (I := fun t m' n' => n' = n ∧ (∀ r, r ≠ 203 → (r < 270 ∨ 276 < r) → m' r = m r) ∧ (∀ j, j ≠ 24 → m' 203 j = m 203 j) ∧ m' 203 24 = Int32.ofNat (lm_dw s * (256 * t)) ∧ ∀ t', t' < t → ∀ c, c < 256 → m' (270 + t') c = Int32.ofInt (lm_vz Q s t' c) ∧ -((lm_dg1 s - lm_be s : Nat) : Int) < lm_vz Q s t' c ∧ lm_vz Q s t' c < (lm_dg1 s - lm_be s : Nat)) (E := fun R => ∃ m', R = (.ok (some (.int 0)), lm_w m' n x) ∧ (∀ r, r ≠ 203 → (r < 270 ∨ 276 < r) → m' r = m r) ∧ (∀ j, j ≠ 24 → m' 203 j = m 203 j) ∧ ¬ lm_vzo Q s) (fun t ht m1 n1 ⟨en, g1, g2, g3, g4⟩ => by
    subst en
    have h1 := hat (t + 1) (by omega)
    have h2 := e8 t
    have h3 := e8 (t + 1)
    have e211 : m1 211 = m 211 := g1 211 (by decide) (by decide)
    obtain ⟨m2, c2, f2, o2, t2, v2⟩ := lm_u98 (sc := sc) (d := d + 4) (m := m1) (n := n1) (x := x) (q := 211) (v := 65536) (p := 270 + t) (a := lm_dsz s) (T := lm_dw s * (256 * t)) (bits := lm_dw s) (Bd := (lm_dg1 s : Int)) rfl (by decide) (lm_arY t (by omega)) (by omega) g3 (by rw [← Nat.mul_add, show 256 * t + 256 = 256 * (t + 1) by omega]; omega) (by omega) (by omega) (by decide)
    rw [e211] at v2
    rw [← Nat.mul_add, show 256 * t + 256 = 256 * (t + 1) by omega] at t2
    have vz2 : ∀ c, c < 256 → m2 (270 + t) c = Int32.ofInt (lm_vz Q s t c) := fun c hc => by
      have hcb : lm_dw s * c + lm_dw s ≤ lm_dw s * 256 := by
        rw [← Nat.mul_succ]
        exact Nat.mul_le_mul_left _ hc
      have h4 : lm_dw s * (256 * (t + 1)) = lm_dw s * (256 * t) + lm_dw s * 256 := by rw [← Nat.mul_add, show 256 * t + 256 = 256 * (t + 1) by omega]
      rw [v2 c hc, lm_bt_K hQ (by omega), h2, Nat.mul_comm (lm_dw s) c, lm_bt_sh2]
      rfl
    have R2 : lm_RD C s m2 n1 := by
      have e203 : ∀ j, j ≠ 24 → m2 203 j = m 203 j := fun j hj => by rw [o2 j hj, g2 j hj]
      exact hR.keepD ⟨fun j _ _ _ _ q => e203 j q, fun _ _ _ _ _ _ _ => rfl⟩ (by rw [f2 221 (by decide) (by omega), g1 221 (by decide) (by decide)]) (by rw [f2 268 (by decide) (by omega), g1 268 (by decide) (by decide)])
    have E2 : lm_RE s m2 := hE.of fun j a b => by rw [o2 j (by omega), g2 j (by omega)]
    have run : ∀ R, lm_rn sc (d + 7) lm_m32.2.2.2.2.1 (lm_reg lm_m32.2.2.2.2.2) (190, [(0, .ref 203), (2, .int w), (4, .int (Int32.ofNat t)), (5, .int (Int32.ofNat 0))], []) (lm_w m2 n1 x) = some R → lm_rn sc (d + 7) lm_m32.2.2.2.2.1 (lm_reg lm_m32.2.2.2.2.2) (149, [(0, .ref 203), (2, .int w), (4, .int (Int32.ofNat t))], []) (lm_w m1 n1 x) = some R := by
      intro R KK
      clear g4 v2 vz2
      refine lm_e32_149 ?_
      unfold lm_q32_149
      repeat (first
    | ((with_reducible apply lm_sI); exact rfl)
    | ((with_reducible apply lm_sR); exact rfl)
    | ((with_reducible apply lm_sS); exact rfl; exact rfl)
    | ((with_reducible apply lm_sL); exact rfl)
    | ((with_reducible apply lm_sP); exact rfl; exact rfl)
    | ((with_reducible apply lm_sPL); exact rfl; exact rfl)
    | ((with_reducible apply lm_sAA); exact rfl; exact rfl)
    | ((with_reducible apply lm_sA); (first | exact rfl | assumption); omega)
    | ((with_reducible apply lm_sJ); (first | exact rfl | assumption); omega)
    | ((with_reducible apply lm_sB); (first | exact rfl | assumption); omega)
    | ((with_reducible apply lm_wA); (first | exact rfl | assumption); omega)
    | ((with_reducible apply lm_wJ); (first | exact rfl | assumption); omega)
    | ((with_reducible apply lm_wB); (first | exact rfl | assumption); omega)
    | ((with_reducible apply lm_sAl); (first | exact rfl | assumption); omega)
    | ((with_reducible apply lm_iW); decide))
      simp only [Nat.reduceDiv, Nat.reduceMod]
      rw [g2 42 (by decide), hR.2.2.1]
      refine lm_geF (by omega) (by omega) (by omega) ?_
      rw [lm_K5]
      repeat (first
    | ((with_reducible apply lm_sI); exact rfl)
    | ((with_reducible apply lm_sR); exact rfl)
    | ((with_reducible apply lm_sS); exact rfl; exact rfl)
    | ((with_reducible apply lm_sL); exact rfl)
    | ((with_reducible apply lm_sP); exact rfl; exact rfl)
    | ((with_reducible apply lm_sPL); exact rfl; exact rfl)
    | ((with_reducible apply lm_sAA); exact rfl; exact rfl)
    | ((with_reducible apply lm_sA); (first | exact rfl | assumption); omega)
    | ((with_reducible apply lm_sJ); (first | exact rfl | assumption); omega)
    | ((with_reducible apply lm_sB); (first | exact rfl | assumption); omega)
    | ((with_reducible apply lm_wA); (first | exact rfl | assumption); omega)
    | ((with_reducible apply lm_wJ); (first | exact rfl | assumption); omega)
    | ((with_reducible apply lm_wB); (first | exact rfl | assumption); omega)
    | ((with_reducible apply lm_sAl); (first | exact rfl | assumption); omega)
    | ((with_reducible apply lm_iW); decide))
      simp only [Nat.reduceDiv, Nat.reduceMod]
      rw [g2 48 (by decide), hE.2.2.2.2.1]
      refine lm_sAA rfl (lm_roY t (by omega)) ?_
      repeat (first
    | ((with_reducible apply lm_sI); exact rfl)
    | ((with_reducible apply lm_sR); exact rfl)
    | ((with_reducible apply lm_sS); exact rfl; exact rfl)
    | ((with_reducible apply lm_sL); exact rfl)
    | ((with_reducible apply lm_sP); exact rfl; exact rfl)
    | ((with_reducible apply lm_sPL); exact rfl; exact rfl)
    | ((with_reducible apply lm_sAA); exact rfl; exact rfl)
    | ((with_reducible apply lm_sA); (first | exact rfl | assumption); omega)
    | ((with_reducible apply lm_sJ); (first | exact rfl | assumption); omega)
    | ((with_reducible apply lm_sB); (first | exact rfl | assumption); omega)
    | ((with_reducible apply lm_wA); (first | exact rfl | assumption); omega)
    | ((with_reducible apply lm_wJ); (first | exact rfl | assumption); omega)
    | ((with_reducible apply lm_wB); (first | exact rfl | assumption); omega)
    | ((with_reducible apply lm_sAl); (first | exact rfl | assumption); omega)
    | ((with_reducible apply lm_iW); decide))
      simp only [Nat.reduceDiv, Nat.reduceMod]
      rw [g2 45 (by decide), hE.2.1, g2 49 (by decide), hE.2.2.2.2.2, lm_oN (lm_dg1 s)]
      refine lm_cV c2 ?_
      rw [lm_K0]
      exact KK
    rcases lm_l32c (sc := sc) (C := C) (d := d) (m := m2) (n := n1) (x := x) (s := s) (w := w) (t := t) (Z := lm_vz Q s t) hs (by omega) R2 E2 (fun c hc => ⟨vz2 c hc, lm_vz_b hs⟩) with ⟨z3, k3⟩ | ⟨⟨c, hc, q⟩, k3⟩
    · refine Or.inl ⟨m2, n1, ⟨rfl, fun r q1 q2 => by rw [f2 r q1 (by omega), g1 r q1 q2], fun j hj => by rw [o2 j hj, g2 j hj], t2, fun t' ht' c hc => ?_⟩, fun R KK => run R (k3 R KK)⟩
      by_cases c0 : t' = t
      · subst c0; exact ⟨vz2 c hc, z3 c hc⟩
      · rw [f2 _ (by omega) (by omega)]
        exact g4 t' (by omega) c hc
    · exact Or.inr ⟨_, ⟨m2, rfl, fun r q1 q2 => by rw [f2 r q1 (by omega), g1 r q1 q2], fun j hj => by rw [o2 j hj, g2 j hj], fun g => q (g t ht c hc)⟩, run _ k3⟩) (lm_dl s) 0 (by omega) m n ⟨rfl, fun _ _ _ => rfl, fun _ _ => rfl, by rw [h24, Nat.mul_zero], fun t' ht' => absurd ht' (by omega)⟩ with ⟨m1, n1, ⟨en, g1, g2, g3, g4⟩, k1⟩ | ⟨R, ⟨m1, eR, g1, g2, g3⟩, k1⟩
  · subst en
    exact Or.inl ⟨m1, ⟨g1, g2, fun t ht c hc => (g4 t ht c hc).1, fun t ht c hc => (g4 t ht c hc).2⟩, k1⟩
  · rw [eR] at k1
    exact Or.inr ⟨m1, ⟨g1, g2, g3⟩, k1⟩
theorem lm_l32b {Z : Nat → Nat → Int} (hs : s ≤ 2) (hR : lm_RD C s m n) (hZ : ∀ t, t < lm_dl s → ∀ c, c < 256 → m (270 + t) c = Int32.ofInt (Z t c) ∧ -524288 ≤ Z t c ∧ Z t c ≤ 524288) : ∃ m' n', ((∀ r, (r < 270 ∨ 276 < r) → m' r = m r) ∧ (∀ q, q ≠ 230 → n' q = n q) ∧ ∀ t, t < lm_dl s → ∀ c, c < 256 → m' (270 + t) c = Int32.ofInt (ln_pt (fun c => Z t c % 8380417) c % 8380417)) ∧ ∀ R, lm_rn sc (d + 7) lm_m32.2.2.2.2.1 (lm_reg lm_m32.2.2.2.2.2) (362, [(0, .ref 203), (4, .int (Int32.ofNat (lm_dl s)))], []) (lm_w m' n' x) = some R → lm_rn sc (d + 7) lm_m32.2.2.2.2.1 (lm_reg lm_m32.2.2.2.2.2) (362, [(0, .ref 203), (4, .int (Int32.ofNat 0))], []) (lm_w m n x) = some R := by
  have hkl := lm_dkl hs
  obtain ⟨m', n', ⟨g1, g2, g3, g4⟩, k1⟩ := lm_lp (sc := sc) (d := d + 7) (b := lm_dl s) (hs := lm_m32.2.2.2.2.1) (code := lm_reg lm_m32.2.2.2.2.2) (x := x) (fr := fun t => (362, [(0, .ref 203), (4, .int (Int32.ofNat t))], [])) (I := fun t m' n' => (∀ r, (r < 270 ∨ 276 < r) → m' r = m r) ∧ (∀ q, q ≠ 230 → n' q = n q) ∧ (∀ t', t' < t → ∀ c, c < 256 → m' (270 + t') c = Int32.ofInt (ln_pt (fun c => Z t' c % 8380417) c % 8380417)) ∧ ∀ t', t ≤ t' → m' (270 + t') = m (270 + t')) (fun t ht m1 n1 ⟨g1, g2, g3, g4⟩ => by
    have aY := lm_arY t (by omega)
    obtain ⟨m2, c2, p2⟩ := lm_u89 (sc := sc) (d := d + 6) (m0 := m1) (m := m1) (n := n1) (x := x) (p := 270 + t) (G := Z t) aY ⟨fun _ _ => rfl, fun c hc => by rw [g4 t (by omega)]; exact (hZ t ht c hc).1⟩ (fun c hc => by have := hZ t ht c hc; omega)
    obtain ⟨m3, n3, c3, p3, q3⟩ := lm_u90 (sc := sc) (d := d + 5) (m := m2) (n := n1) (x := x) (p := 270 + t) (G := fun c => Z t c % 8380417) aY (fun u hu => by rw [p2.1 268 (by omega), g1 268 (by omega)]; exact hR.2.2.2.2 u hu) (fun c hc => ⟨Int.emod_nonneg _ (by decide), lm_le6 (Int.emod_lt_of_pos _ (by decide))⟩) p2.2
    refine ⟨m3, n3, ⟨fun r hr => by rw [p3.1 r (by omega), p2.1 r (by omega), g1 r hr], fun q hq => by rw [q3 q hq, g2 q hq], fun t' ht' c hc => ?_, fun t' ht' => by rw [p3.1 _ (by omega), p2.1 _ (by omega), g4 t' (by omega)]⟩, fun R KK => lm_e32_362 ?_⟩
    · by_cases c0 : t' = t
      · subst c0; exact p3.2 c hc
      · rw [p3.1 _ (by omega), p2.1 _ (by omega)]; exact g3 t' (by omega) c hc
    · clear g3 g4 hZ
      unfold lm_q32_362
      repeat (first
    | ((with_reducible apply lm_sI); exact rfl)
    | ((with_reducible apply lm_sR); exact rfl)
    | ((with_reducible apply lm_sS); exact rfl; exact rfl)
    | ((with_reducible apply lm_sL); exact rfl)
    | ((with_reducible apply lm_sP); exact rfl; exact rfl)
    | ((with_reducible apply lm_sPL); exact rfl; exact rfl)
    | ((with_reducible apply lm_sAA); exact rfl; exact rfl)
    | ((with_reducible apply lm_sA); (first | exact rfl | assumption); omega)
    | ((with_reducible apply lm_sJ); (first | exact rfl | assumption); omega)
    | ((with_reducible apply lm_sB); (first | exact rfl | assumption); omega)
    | ((with_reducible apply lm_wA); (first | exact rfl | assumption); omega)
    | ((with_reducible apply lm_wJ); (first | exact rfl | assumption); omega)
    | ((with_reducible apply lm_wB); (first | exact rfl | assumption); omega)
    | ((with_reducible apply lm_sAl); (first | exact rfl | assumption); omega)
    | ((with_reducible apply lm_iW); decide))
      simp only [Nat.reduceDiv, Nat.reduceMod]
      rw [g1 203 (by omega), hR.2.2.1]
      refine lm_geF (by omega) (by omega) (by omega) ?_
      repeat (first
    | ((with_reducible apply lm_sI); exact rfl)
    | ((with_reducible apply lm_sR); exact rfl)
    | ((with_reducible apply lm_sS); exact rfl; exact rfl)
    | ((with_reducible apply lm_sL); exact rfl)
    | ((with_reducible apply lm_sP); exact rfl; exact rfl)
    | ((with_reducible apply lm_sPL); exact rfl; exact rfl)
    | ((with_reducible apply lm_sAA); exact rfl; exact rfl)
    | ((with_reducible apply lm_sA); (first | exact rfl | assumption); omega)
    | ((with_reducible apply lm_sJ); (first | exact rfl | assumption); omega)
    | ((with_reducible apply lm_sB); (first | exact rfl | assumption); omega)
    | ((with_reducible apply lm_wA); (first | exact rfl | assumption); omega)
    | ((with_reducible apply lm_wJ); (first | exact rfl | assumption); omega)
    | ((with_reducible apply lm_wB); (first | exact rfl | assumption); omega)
    | ((with_reducible apply lm_sAl); (first | exact rfl | assumption); omega)
    | ((with_reducible apply lm_iW); decide))
      refine lm_sAA rfl (lm_roY t (by omega)) ?_
      refine lm_cV c2 ?_
      repeat (first
    | ((with_reducible apply lm_sI); exact rfl)
    | ((with_reducible apply lm_sR); exact rfl)
    | ((with_reducible apply lm_sS); exact rfl; exact rfl)
    | ((with_reducible apply lm_sL); exact rfl)
    | ((with_reducible apply lm_sP); exact rfl; exact rfl)
    | ((with_reducible apply lm_sPL); exact rfl; exact rfl)
    | ((with_reducible apply lm_sAA); exact rfl; exact rfl)
    | ((with_reducible apply lm_sA); (first | exact rfl | assumption); omega)
    | ((with_reducible apply lm_sJ); (first | exact rfl | assumption); omega)
    | ((with_reducible apply lm_sB); (first | exact rfl | assumption); omega)
    | ((with_reducible apply lm_wA); (first | exact rfl | assumption); omega)
    | ((with_reducible apply lm_wJ); (first | exact rfl | assumption); omega)
    | ((with_reducible apply lm_wB); (first | exact rfl | assumption); omega)
    | ((with_reducible apply lm_sAl); (first | exact rfl | assumption); omega)
    | ((with_reducible apply lm_iW); decide))
      refine lm_sAA rfl (lm_roY t (by omega)) ?_
      repeat (first
    | ((with_reducible apply lm_sI); exact rfl)
    | ((with_reducible apply lm_sR); exact rfl)
    | ((with_reducible apply lm_sS); exact rfl; exact rfl)
    | ((with_reducible apply lm_sL); exact rfl)
    | ((with_reducible apply lm_sP); exact rfl; exact rfl)
    | ((with_reducible apply lm_sPL); exact rfl; exact rfl)
    | ((with_reducible apply lm_sAA); exact rfl; exact rfl)
    | ((with_reducible apply lm_sA); (first | exact rfl | assumption); omega)
    | ((with_reducible apply lm_sJ); (first | exact rfl | assumption); omega)
    | ((with_reducible apply lm_sB); (first | exact rfl | assumption); omega)
    | ((with_reducible apply lm_wA); (first | exact rfl | assumption); omega)
    | ((with_reducible apply lm_wJ); (first | exact rfl | assumption); omega)
    | ((with_reducible apply lm_wB); (first | exact rfl | assumption); omega)
    | ((with_reducible apply lm_sAl); (first | exact rfl | assumption); omega)
    | ((with_reducible apply lm_iW); decide))
      refine lm_cV c3 ?_
      rw [lm_K1, lm_oo]
      exact KK) (lm_dl s) 0 (by omega) m n ⟨fun _ _ => rfl, fun _ _ => rfl, fun t' ht' => absurd ht' (by omega), fun _ _ => rfl⟩
  exact ⟨m', n', ⟨g1, g2, g3⟩, k1⟩
end LMRB
