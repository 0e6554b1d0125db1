/-! ===== slhNode of the class ===== -/
def lm_nW (C : lm_CX) (s : Nat) (K : Nat → Int32) (L : Int32) (T : Int64) : lm_WT := (C, s, lm_clp (lm_sn s) (fun t => lm_b8 (K (2 * lm_sn s + t))), lm_clp (lm_sn s) (fun t => lm_b8 (K t)), L, Int64.toInt32 (lm_uL T (Int32.ofInt 32)), Int64.toInt32 T)
theorem lm_nW_x {C : lm_CX} {s : Nat} {K K' : Nat → Int32} {L : Int32} {T : Int64} (h : ∀ t, t < 4 * lm_sn s → lm_b8 (K t) = lm_b8 (K' t)) : lm_nW C s K L T = lm_nW C s K' L T := by
  unfold lm_nW
  rw [lm_clp_x (g := fun t => lm_b8 (K' (2 * lm_sn s + t))) (fun t ht => h _ (by omega)), lm_clp_x (g := fun t => lm_b8 (K' t)) (fun t ht => h _ (by omega))]
section LMTB
variable {xs : List Int32} {sc : lm_H} {C : lm_CX} {d s l z i : Nat} {m m' : lm_MI} {n n' : lm_ML} {x : lm_H × Nat × Nat} {v x2 x3 x4 x5 : Int32}
/-- what the numbers of a good call are -/
theorem lm_nOk_n (hs : s ≤ 11) (h : lm_nOk s x2 x3 x4 x5) : ∃ z i, x4 = Int32.ofNat z ∧ x5 = Int32.ofNat i ∧ z ≤ lm_sh s ∧ (i + 1) * 2 ^ z ≤ 512 := by
  obtain ⟨_, _, h4, h5⟩ := h
  have hpar := lm_spar s hs
  rcases lm_range x4 (n := lm_sh s) (by omega) with ⟨z, hz, e⟩ | e
  · subst e
    have e5 : lm_nI5 s (Int32.ofNat z) = Int32.ofNat (2 ^ (lm_sh s - z) - 1) := by
      unfold lm_nI5
      rw [lm_osu hz, lm_msk (by omega)]
    rw [e5] at h5
    have hp : 2 ^ (lm_sh s - z) ≤ 512 := Nat.pow_le_pow_right (n := 2) (by decide) (show lm_sh s - z ≤ 9 by omega)
    rcases lm_range x5 (n := 2 ^ (lm_sh s - z) - 1) (by omega) with ⟨i, hi, e⟩ | e
    · refine ⟨z, i, rfl, e, hz, ?_⟩
      have h0 : 0 < 2 ^ (lm_sh s - z) := Nat.two_pow_pos _
      have h1 : (i + 1) * 2 ^ z ≤ 2 ^ (lm_sh s - z) * 2 ^ z := Nat.mul_le_mul_right _ (by omega)
      rw [← Nat.pow_add, show lm_sh s - z + z = lm_sh s by omega] at h1
      exact Nat.le_trans h1 (lm_sh2p hs)
    · exact absurd h5 e
  · exact absurd h4 e
/-- the checks of the call -/
theorem lm_l122 (hs : s ≤ 11) (hl : m 30 1 = Int32.ofNat l) (hl2 : l ≤ 65536) : ∃ m1, lm_SF m1 s ∧ (∀ t, t < 32 → lm_b8 (m1 195 t) = 0) ∧ (∀ q, q ≠ 194 → q ≠ 195 → m1 q = m q) ∧ (lm_nOk s x2 x3 x4 x5 → ∀ R, lm_rn (lm_sc xs) (d + 2) lm_m122.2.2.2.2.1 (lm_reg lm_m122.2.2.2.2.2) (95, [(0, .ref 0), (2, .int x2), (3, .int x3), (4, .int x4), (5, .int x5)], [.int (if l = 4 * lm_sn s then Int32.ofInt 1 else Int32.ofInt 0)]) (lm_w m1 n x) = some R → lm_cal (lm_sc xs) (d + 3) 122 [.ref 0, .int (Int32.ofNat s), .int x2, .int x3, .int x4, .int x5] (lm_w m n x) = some R) ∧ (¬ lm_nOk s x2 x3 x4 x5 → lm_rom x → lm_cal (lm_sc xs) (d + 3) 122 [.ref 0, .int (Int32.ofNat s), .int x2, .int x3, .int x4, .int x5] (lm_w m n x) = some (.error (lm_xp x), lm_w m1 n (lm_xx 13 x))) := by
  obtain ⟨m1, c1, F1, z1, f1⟩ := lm_u176c (xs := xs) (d := d) (m := m) (n := n) (x := x) hs
  have hb := lm_sn_b (s := s)
  have pre : ∀ R, (lm_bind (lm_asV (lm_cal (lm_sc xs) (d + 2) 132 [.int x2, .int (Int32.ofInt 0), .int (Int32.ofNat (lm_sd s) - Int32.ofInt 1)])) (fun _ => lm_bind (lm_asV (lm_cal (lm_sc xs) (d + 2) 132 [.int x3, .int (Int32.ofInt 0), .int (Int32.ofInt 2147483647)])) fun _ => lm_bind (lm_gR 26 0) fun v5 => lm_bind (lm_gI 4024 v5) fun v6 => lm_bind (lm_asV (lm_cal (lm_sc xs) (d + 2) 132 [.int x4, .int (Int32.ofInt 0), .int v6])) fun _ => lm_bind (lm_gR 26 0) fun v7 => lm_bind (lm_gI 4024 v7) fun v8 => lm_bind (lm_asV (lm_cal (lm_sc xs) (d + 2) 132 [.int x5, .int (Int32.ofInt 0), .int (((Int32.ofInt 1) <<< ((v8 - x4) &&& 31)) - (Int32.ofInt 1))])) fun _ => lm_bind (lm_gR 2 0) fun v9 => lm_bind (lm_aaR (lm_sc xs) v9 (Int32.ofInt 2)) fun v10 => lm_bind (lm_gI 404 v10) fun v11 => lm_bind (lm_gR 26 0) fun v12 => lm_bind (lm_gI 4016 v12) fun v13 => lm_if .ne v11 ((Int32.ofInt 4) * v13) (lm_rn (lm_sc xs) (d + 2) lm_m122.2.2.2.2.1 (lm_reg lm_m122.2.2.2.2.2) (95, [(0, .ref 0), (2, .int x2), (3, .int x3), (4, .int x4), (5, .int x5)], [.int (Int32.ofInt 0)])) (lm_rn (lm_sc xs) (d + 2) lm_m122.2.2.2.2.1 (lm_reg lm_m122.2.2.2.2.2) (95, [(0, .ref 0), (2, .int x2), (3, .int x3), (4, .int x4), (5, .int x5)], [.int (Int32.ofInt 1)]))) (lm_w m1 n x)) = some R → lm_cal (lm_sc xs) (d + 3) 122 [.ref 0, .int (Int32.ofNat s), .int x2, .int x3, .int x4, .int x5] (lm_w m n x) = some R := by
    intro R KK
    refine lm_cal_of (Y := lm_m122) rfl rfl (lm_e122_0 ?_)
    unfold lm_q122_0
    refine lm_cV (lm_t132n (i := s) (d := d + 1) (n := 11) hs (by omega)) ?_
    repeat (first
    | ((with_reducible apply lm_sI); exact rfl)
    | ((with_reducible apply lm_sR); exact rfl)
    | ((with_reducible apply lm_sS); exact rfl; exact rfl)
    | ((with_reducible apply lm_sL); exact rfl)
    | ((with_reducible apply lm_sP); exact rfl; exact rfl)
    | ((with_reducible apply lm_sPL); exact rfl; exact rfl)
    | ((with_reducible apply lm_sAA); exact rfl; first | exact rfl | exact lm_roO (by omega) | exact lm_roM (by omega))
    | ((with_reducible apply lm_sI); exact lm_fpL (by omega))
    | ((with_reducible apply lm_sR); exact lm_fpB (by omega))
    | ((with_reducible apply lm_sP); exact lm_fpL (by omega); exact rfl)
    | ((with_reducible apply lm_sS); exact lm_ocO (by omega); exact rfl)
    | ((with_reducible apply lm_sA); exact rfl; omega)
    | ((with_reducible apply lm_sJ); exact rfl; omega)
    | ((with_reducible apply lm_sB); (first | exact rfl | exact lm_arB (by omega) | exact lm_arM (by omega)); omega)
    | ((with_reducible apply lm_wA); exact rfl; omega)
    | ((with_reducible apply lm_wJ); exact rfl; omega)
    | ((with_reducible apply lm_wB); (first | exact rfl | exact lm_arB (by omega) | exact lm_arM (by omega)); omega)
    | ((with_reducible apply lm_sAl); (first | exact rfl | exact lm_arB (by omega) | exact lm_arM (by omega)); omega)
    | ((with_reducible apply lm_iW); decide))
    refine lm_cV c1 ?_
    repeat (first
    | ((with_reducible apply lm_sI); exact rfl)
    | ((with_reducible apply lm_sR); exact rfl)
    | ((with_reducible apply lm_sS); exact rfl; exact rfl)
    | ((with_reducible apply lm_sL); exact rfl)
    | ((with_reducible apply lm_sP); exact rfl; exact rfl)
    | ((with_reducible apply lm_sPL); exact rfl; exact rfl)
    | ((with_reducible apply lm_sAA); exact rfl; first | exact rfl | exact lm_roO (by omega) | exact lm_roM (by omega))
    | ((with_reducible apply lm_sI); exact lm_fpL (by omega))
    | ((with_reducible apply lm_sR); exact lm_fpB (by omega))
    | ((with_reducible apply lm_sP); exact lm_fpL (by omega); exact rfl)
    | ((with_reducible apply lm_sS); exact lm_ocO (by omega); exact rfl)
    | ((with_reducible apply lm_sA); exact rfl; omega)
    | ((with_reducible apply lm_sJ); exact rfl; omega)
    | ((with_reducible apply lm_sB); (first | exact rfl | exact lm_arB (by omega) | exact lm_arM (by omega)); omega)
    | ((with_reducible apply lm_wA); exact rfl; omega)
    | ((with_reducible apply lm_wJ); exact rfl; omega)
    | ((with_reducible apply lm_wB); (first | exact rfl | exact lm_arB (by omega) | exact lm_arM (by omega)); omega)
    | ((with_reducible apply lm_sAl); (first | exact rfl | exact lm_arB (by omega) | exact lm_arM (by omega)); omega)
    | ((with_reducible apply lm_iW); decide))
    simp only [Nat.reduceDiv, Nat.reduceMod]
    rw [F1.2.2.1]
    exact KK
  have e6 : m1 194 6 = Int32.ofNat (lm_sh s) := F1.2.2.2.1
  refine ⟨m1, F1, z1, f1, fun ok R KK => ?_, fun nok hr => ?_⟩
  · obtain ⟨c2, c3, c4, c5⟩ := ok
    refine pre R ?_
    refine lm_cV (lm_t132 (d := d + 1) c2.1 c2.2) ?_
    refine lm_cV (lm_t132 (d := d + 1) c3 (lm_le_max x3)) ?_
    repeat (first
    | ((with_reducible apply lm_sI); exact rfl)
    | ((with_reducible apply lm_sR); exact rfl)
    | ((with_reducible apply lm_sS); exact rfl; exact rfl)
    | ((with_reducible apply lm_sL); exact rfl)
    | ((with_reducible apply lm_sP); exact rfl; exact rfl)
    | ((with_reducible apply lm_sPL); exact rfl; exact rfl)
    | ((with_reducible apply lm_sAA); exact rfl; first | exact rfl | exact lm_roO (by omega) | exact lm_roM (by omega))
    | ((with_reducible apply lm_sI); exact lm_fpL (by omega))
    | ((with_reducible apply lm_sR); exact lm_fpB (by omega))
    | ((with_reducible apply lm_sP); exact lm_fpL (by omega); exact rfl)
    | ((with_reducible apply lm_sS); exact lm_ocO (by omega); exact rfl)
    | ((with_reducible apply lm_sA); exact rfl; omega)
    | ((with_reducible apply lm_sJ); exact rfl; omega)
    | ((with_reducible apply lm_sB); (first | exact rfl | exact lm_arB (by omega) | exact lm_arM (by omega)); omega)
    | ((with_reducible apply lm_wA); exact rfl; omega)
    | ((with_reducible apply lm_wJ); exact rfl; omega)
    | ((with_reducible apply lm_wB); (first | exact rfl | exact lm_arB (by omega) | exact lm_arM (by omega)); omega)
    | ((with_reducible apply lm_sAl); (first | exact rfl | exact lm_arB (by omega) | exact lm_arM (by omega)); omega)
    | ((with_reducible apply lm_iW); decide))
    simp only [Nat.reduceDiv, Nat.reduceMod]
    rw [e6]
    refine lm_cV (lm_t132 (d := d + 1) c4.1 c4.2) ?_
    repeat (first
    | ((with_reducible apply lm_sI); exact rfl)
    | ((with_reducible apply lm_sR); exact rfl)
    | ((with_reducible apply lm_sS); exact rfl; exact rfl)
    | ((with_reducible apply lm_sL); exact rfl)
    | ((with_reducible apply lm_sP); exact rfl; exact rfl)
    | ((with_reducible apply lm_sPL); exact rfl; exact rfl)
    | ((with_reducible apply lm_sAA); exact rfl; first | exact rfl | exact lm_roO (by omega) | exact lm_roM (by omega))
    | ((with_reducible apply lm_sI); exact lm_fpL (by omega))
    | ((with_reducible apply lm_sR); exact lm_fpB (by omega))
    | ((with_reducible apply lm_sP); exact lm_fpL (by omega); exact rfl)
    | ((with_reducible apply lm_sS); exact lm_ocO (by omega); exact rfl)
    | ((with_reducible apply lm_sA); exact rfl; omega)
    | ((with_reducible apply lm_sJ); exact rfl; omega)
    | ((with_reducible apply lm_sB); (first | exact rfl | exact lm_arB (by omega) | exact lm_arM (by omega)); omega)
    | ((with_reducible apply lm_wA); exact rfl; omega)
    | ((with_reducible apply lm_wJ); exact rfl; omega)
    | ((with_reducible apply lm_wB); (first | exact rfl | exact lm_arB (by omega) | exact lm_arM (by omega)); omega)
    | ((with_reducible apply lm_sAl); (first | exact rfl | exact lm_arB (by omega) | exact lm_arM (by omega)); omega)
    | ((with_reducible apply lm_iW); decide))
    simp only [Nat.reduceDiv, Nat.reduceMod]
    rw [e6]
    refine lm_cV (lm_t132 (d := d + 1) c5.1 c5.2) ?_
    rw [lm_K2, lm_K4]
    repeat (first
    | ((with_reducible apply lm_sI); exact rfl)
    | ((with_reducible apply lm_sR); exact rfl)
    | ((with_reducible apply lm_sS); exact rfl; exact rfl)
    | ((with_reducible apply lm_sL); exact rfl)
    | ((with_reducible apply lm_sP); exact rfl; exact rfl)
    | ((with_reducible apply lm_sPL); exact rfl; exact rfl)
    | ((with_reducible apply lm_sAA); exact rfl; first | exact rfl | exact lm_roO (by omega) | exact lm_roM (by omega))
    | ((with_reducible apply lm_sI); exact lm_fpL (by omega))
    | ((with_reducible apply lm_sR); exact lm_fpB (by omega))
    | ((with_reducible apply lm_sP); exact lm_fpL (by omega); exact rfl)
    | ((with_reducible apply lm_sS); exact lm_ocO (by omega); exact rfl)
    | ((with_reducible apply lm_sA); exact rfl; omega)
    | ((with_reducible apply lm_sJ); exact rfl; omega)
    | ((with_reducible apply lm_sB); (first | exact rfl | exact lm_arB (by omega) | exact lm_arM (by omega)); omega)
    | ((with_reducible apply lm_wA); exact rfl; omega)
    | ((with_reducible apply lm_wJ); exact rfl; omega)
    | ((with_reducible apply lm_wB); (first | exact rfl | exact lm_arB (by omega) | exact lm_arM (by omega)); omega)
    | ((with_reducible apply lm_sAl); (first | exact rfl | exact lm_arB (by omega) | exact lm_arM (by omega)); omega)
    | ((with_reducible apply lm_iW); decide))
    simp only [Nat.reduceDiv, Nat.reduceMod]
    rw [f1 30 (by decide) (by decide), hl, F1.2.1, lm_om]
    by_cases c : l = 4 * lm_sn s
    · rw [if_pos c] at KK
      exact lm_neF (by omega) (by omega) (fun g => g c) KK
    · rw [if_neg c] at KK
      exact lm_neT (by omega) (by omega) c KK
  · refine pre _ ?_
    by_cases c2 : (0 : Int32) ≤ x2 ∧ x2 ≤ Int32.ofNat (lm_sd s) - Int32.ofInt 1
    · refine lm_cV (lm_t132 (d := d + 1) c2.1 c2.2) ?_
      by_cases c3 : (0 : Int32) ≤ x3
      · refine lm_cV (lm_t132 (d := d + 1) c3 (lm_le_max x3)) ?_
        repeat (first
    | ((with_reducible apply lm_sI); exact rfl)
    | ((with_reducible apply lm_sR); exact rfl)
    | ((with_reducible apply lm_sS); exact rfl; exact rfl)
    | ((with_reducible apply lm_sL); exact rfl)
    | ((with_reducible apply lm_sP); exact rfl; exact rfl)
    | ((with_reducible apply lm_sPL); exact rfl; exact rfl)
    | ((with_reducible apply lm_sAA); exact rfl; first | exact rfl | exact lm_roO (by omega) | exact lm_roM (by omega))
    | ((with_reducible apply lm_sI); exact lm_fpL (by omega))
    | ((with_reducible apply lm_sR); exact lm_fpB (by omega))
    | ((with_reducible apply lm_sP); exact lm_fpL (by omega); exact rfl)
    | ((with_reducible apply lm_sS); exact lm_ocO (by omega); exact rfl)
    | ((with_reducible apply lm_sA); exact rfl; omega)
    | ((with_reducible apply lm_sJ); exact rfl; omega)
    | ((with_reducible apply lm_sB); (first | exact rfl | exact lm_arB (by omega) | exact lm_arM (by omega)); omega)
    | ((with_reducible apply lm_wA); exact rfl; omega)
    | ((with_reducible apply lm_wJ); exact rfl; omega)
    | ((with_reducible apply lm_wB); (first | exact rfl | exact lm_arB (by omega) | exact lm_arM (by omega)); omega)
    | ((with_reducible apply lm_sAl); (first | exact rfl | exact lm_arB (by omega) | exact lm_arM (by omega)); omega)
    | ((with_reducible apply lm_iW); decide))
        simp only [Nat.reduceDiv, Nat.reduceMod]
        rw [e6]
        by_cases c4 : (0 : Int32) ≤ x4 ∧ x4 ≤ Int32.ofNat (lm_sh s)
        · refine lm_cV (lm_t132 (d := d + 1) c4.1 c4.2) ?_
          repeat (first
    | ((with_reducible apply lm_sI); exact rfl)
    | ((with_reducible apply lm_sR); exact rfl)
    | ((with_reducible apply lm_sS); exact rfl; exact rfl)
    | ((with_reducible apply lm_sL); exact rfl)
    | ((with_reducible apply lm_sP); exact rfl; exact rfl)
    | ((with_reducible apply lm_sPL); exact rfl; exact rfl)
    | ((with_reducible apply lm_sAA); exact rfl; first | exact rfl | exact lm_roO (by omega) | exact lm_roM (by omega))
    | ((with_reducible apply lm_sI); exact lm_fpL (by omega))
    | ((with_reducible apply lm_sR); exact lm_fpB (by omega))
    | ((with_reducible apply lm_sP); exact lm_fpL (by omega); exact rfl)
    | ((with_reducible apply lm_sS); exact lm_ocO (by omega); exact rfl)
    | ((with_reducible apply lm_sA); exact rfl; omega)
    | ((with_reducible apply lm_sJ); exact rfl; omega)
    | ((with_reducible apply lm_sB); (first | exact rfl | exact lm_arB (by omega) | exact lm_arM (by omega)); omega)
    | ((with_reducible apply lm_wA); exact rfl; omega)
    | ((with_reducible apply lm_wJ); exact rfl; omega)
    | ((with_reducible apply lm_wB); (first | exact rfl | exact lm_arB (by omega) | exact lm_arM (by omega)); omega)
    | ((with_reducible apply lm_sAl); (first | exact rfl | exact lm_arB (by omega) | exact lm_arM (by omega)); omega)
    | ((with_reducible apply lm_iW); decide))
          simp only [Nat.reduceDiv, Nat.reduceMod]
          rw [e6]
          exact lm_cVe (lm_u132g (d := d + 1) (fun g => nok ⟨c2, c3, c4, g⟩) hr)
        · exact lm_cVe (lm_u132g (d := d + 1) c4 hr)
      · exact lm_cVe (lm_u132g (d := d + 1) (fun g => c3 g.1) hr)
    · exact lm_cVe (lm_u132g (d := d + 1) c2 hr)
theorem lm_u122c (hC : lm_Cok xs C) (hs : s ≤ 11) (hr : ln_rt m) (hl : m 30 1 = Int32.ofNat (4 * lm_sn s)) (ok : lm_nOk s x2 x3 x4 x5) (h4 : x4 = Int32.ofNat z) (h5 : x5 = Int32.ofNat i) (hz : z ≤ lm_sh s) (hi : (i + 1) * 2 ^ z ≤ 512) : ∃ m' n' b, lm_cal (lm_sc xs) (d + 8) 122 [.ref 0, .int (Int32.ofNat s), .int x2, .int x3, .int x4, .int x5] (lm_w m n x) = some (.ok (some (.int (if b = true then Int32.ofInt 1 else Int32.ofInt 0))), lm_w m' n' x) ∧ b = lm_ev (lm_hnd (lm_nW C s (m 31) x2 (Int32.toInt64 x3)) false (Int32.ofNat 0) z i) (fun t => lm_b8 (m 31 (3 * lm_sn s + t))) (lm_sn s) 0 ∧ (∀ r, (r < 5 ∨ 22 < r) → (r < 38 ∨ 39 < r) → (r < 194 ∨ 202 < r) → m' r = m r) ∧ lm_fN m n m' n' ∧ m' 38 1 = Int32.ofNat (lm_sn s) ∧ ∀ t, t < lm_sn s → lm_b8 (m' 39 t) = lm_hnd (lm_nW C s (m 31) x2 (Int32.toInt64 x3)) false (Int32.ofNat 0) z i t := by
  have hpar := lm_spar s hs
  obtain ⟨m1, F1, z1, f1, K1, _⟩ := lm_l122 (xs := xs) (d := d + 5) (n := n) (x := x) (x2 := x2) (x3 := x3) (x4 := x4) (x5 := x5) hs hl (by omega)
  obtain ⟨m2, n2, c2, S2, f2, g2, w2⟩ := lm_u192 (d := d) (x := x) (m := m1) (n := n) (q := 31) (v := 65536) (P := lm_clp (lm_sn s) (fun t => lm_b8 (m 31 (2 * lm_sn s + t)))) hC hs F1 ⟨by rw [f1 11 (by decide) (by decide)]; exact hr.1, by rw [f1 17 (by decide) (by decide)]; exact hr.2⟩ rfl (by decide) (by decide) (by decide) (by omega) (by decide) (fun t ht => by rw [f1 31 (by decide) (by decide), lm_clp_t ht, lm_b8b8])
  have e2 : m2 195 = m1 195 := f2 195 (by decide) (by decide) (by decide)
  obtain ⟨m3, c3, f3, a3⟩ := lm_u193 (sc := lm_sc xs) (d := d + 5) (n := n2) (x := x) (s := s) (L := x2) (T := Int32.toInt64 x3) S2.1.1 (lm_A0z (by rw [e2]; exact z1))
  have X3 : lm_SX (lm_nW C s (m 31) x2 (Int32.toInt64 x3)) m3 n2 := ⟨S2.keep (f3 194 (by decide)) (fun r _ _ => f3 r (by omega)) (fun _ _ _ => rfl), a3, fun t ht => by
    rw [f3 196 (by decide), w2 t ht, f1 31 (by decide) (by decide)]
    exact (lm_clp_t (f := fun t => lm_b8 (m 31 t)) (show t < lm_sn s from ht)).symm⟩
  obtain ⟨m4, n4, c4, f4, g4, S4, o4, w4⟩ := lm_u194 (d := d) (x := x) (fo := false) (u := Int32.ofNat 0) (z := z) (i := i) (p := 39) (w := 65536) (b := 0) (W := lm_nW C s (m 31) x2 (Int32.toInt64 x3)) hC hs X3 (by omega) (by omega) rfl (by decide) (by decide) (by decide) (by decide) (by decide) (show 0 + lm_sn s ≤ 65536 by omega) (by decide)
  have fr : ∀ r, (r < 5 ∨ 22 < r) → r ≠ 39 → (r < 194 ∨ 202 < r) → m4 r = m r := fun r q1 q2 q3 => by rw [f4 r q1 (by omega) (by omega) (by omega) q2, f3 r (by omega), f2 r q1 (by omega) (by omega), f1 r (by omega) (by omega)]
  have fN4 : lm_fN m n m4 n4 := lm_fN.tr (lm_fN.of (f1 11 (by decide) (by decide)) (f1 17 (by decide) (by decide))) (g2.tr (lm_fN.tr (lm_fN.of (f3 11 (by decide)) (f3 17 (by decide))) g4))
  generalize eM5 : lm_u m4 38 1 (Int32.ofNat (lm_sn s)) = M5
  have r5 : ∀ r, r ≠ 38 → M5 r = m4 r := fun r hr => by rw [← eM5, lm_u_row hr]
  have k39 : ∀ t, t < lm_sn s → lm_b8 (M5 39 (0 + t)) = lm_hnd (lm_nW C s (m 31) x2 (Int32.toInt64 x3)) false (Int32.ofNat 0) z i t := fun t ht => by rw [r5 39 (by decide)]; exact w4 t ht
  have uA := lm_u136 (sc := lm_sc xs) (d := d + 6) (m := M5) (n := n4) (x := x) (p := 39) (q := 31) (s := 65536) (r := 65536) (a := 0) (b := 3 * lm_sn s) (l := lm_sn s) rfl rfl (by omega) (by omega)
  rw [lm_ev_congr (f := fun t => lm_b8 (M5 39 (0 + t))) (g := fun t => lm_b8 (M5 31 (3 * lm_sn s + t))) (f' := lm_hnd (lm_nW C s (m 31) x2 (Int32.toInt64 x3)) false (Int32.ofNat 0) z i) (g' := fun t => lm_b8 (m 31 (3 * lm_sn s + t))) (lm_sn s) 0 (fun t _ ht => ⟨k39 t (by omega), by rw [r5 31 (by decide), fr 31 (by decide) (by decide) (by decide)]⟩)] at uA
  generalize eB : lm_ev (lm_hnd (lm_nW C s (m 31) x2 (Int32.toInt64 x3)) false (Int32.ofNat 0) z i) (fun t => lm_b8 (m 31 (3 * lm_sn s + t))) (lm_sn s) 0 = b at uA
  refine ⟨M5, n4, b, K1 ok _ ?_, rfl, fun r q1 q2 q3 => by rw [r5 r (by omega), fr r q1 (by omega) q3], fN4.tr (lm_fN.of (r5 11 (by decide)) (r5 17 (by decide))), by rw [← eM5, lm_u_eq], fun t ht => by rw [← k39 t ht, Nat.zero_add]⟩
  have e4 : ∀ M' : lm_MI, M' 194 = m1 194 → M' 194 4 = Int32.ofNat (lm_sn s) := fun M' e => by rw [e]; exact F1.2.1
  have d4 : m4 194 = m1 194 := by rw [f4 194 (by decide) (by decide) (by decide) (by decide) (by decide), f3 194 (by decide), f2 194 (by decide) (by decide) (by decide)]
  have d5 : M5 194 = m1 194 := by rw [r5 194 (by decide), d4]
  clear k39 w4 w2 o4 X3 S4 eB K1
  subst h4
  subst h5
  rw [if_pos rfl]
  refine lm_e122_95 ?_
  unfold lm_q122_95
  refine lm_cV (lm_u160 (d := d + 6)) ?_
  rw [lm_K0, lm_K2, lm_K3, show Int32.ofInt 6 = Int32.ofNat 6 from rfl]
  repeat (first
    | ((with_reducible apply lm_sI); exact rfl)
    | ((with_reducible apply lm_sR); exact rfl)
    | ((with_reducible apply lm_sS); exact rfl; exact rfl)
    | ((with_reducible apply lm_sL); exact rfl)
    | ((with_reducible apply lm_sP); exact rfl; exact rfl)
    | ((with_reducible apply lm_sPL); exact rfl; exact rfl)
    | ((with_reducible apply lm_sAA); exact rfl; first | exact rfl | exact lm_roO (by omega) | exact lm_roM (by omega))
    | ((with_reducible apply lm_sI); exact lm_fpL (by omega))
    | ((with_reducible apply lm_sR); exact lm_fpB (by omega))
    | ((with_reducible apply lm_sP); exact lm_fpL (by omega); exact rfl)
    | ((with_reducible apply lm_sS); exact lm_ocO (by omega); exact rfl)
    | ((with_reducible apply lm_sA); exact rfl; omega)
    | ((with_reducible apply lm_sJ); exact rfl; omega)
    | ((with_reducible apply lm_sB); (first | exact rfl | exact lm_arB (by omega) | exact lm_arM (by omega)); omega)
    | ((with_reducible apply lm_wA); exact rfl; omega)
    | ((with_reducible apply lm_wJ); exact rfl; omega)
    | ((with_reducible apply lm_wB); (first | exact rfl | exact lm_arB (by omega) | exact lm_arM (by omega)); omega)
    | ((with_reducible apply lm_sAl); (first | exact rfl | exact lm_arB (by omega) | exact lm_arM (by omega)); omega)
    | ((with_reducible apply lm_iW); decide))
  refine lm_cV c2 ?_
  repeat (first
    | ((with_reducible apply lm_sI); exact rfl)
    | ((with_reducible apply lm_sR); exact rfl)
    | ((with_reducible apply lm_sS); exact rfl; exact rfl)
    | ((with_reducible apply lm_sL); exact rfl)
    | ((with_reducible apply lm_sP); exact rfl; exact rfl)
    | ((with_reducible apply lm_sPL); exact rfl; exact rfl)
    | ((with_reducible apply lm_sAA); exact rfl; first | exact rfl | exact lm_roO (by omega) | exact lm_roM (by omega))
    | ((with_reducible apply lm_sI); exact lm_fpL (by omega))
    | ((with_reducible apply lm_sR); exact lm_fpB (by omega))
    | ((with_reducible apply lm_sP); exact lm_fpL (by omega); exact rfl)
    | ((with_reducible apply lm_sS); exact lm_ocO (by omega); exact rfl)
    | ((with_reducible apply lm_sA); exact rfl; omega)
    | ((with_reducible apply lm_sJ); exact rfl; omega)
    | ((with_reducible apply lm_sB); (first | exact rfl | exact lm_arB (by omega) | exact lm_arM (by omega)); omega)
    | ((with_reducible apply lm_wA); exact rfl; omega)
    | ((with_reducible apply lm_wJ); exact rfl; omega)
    | ((with_reducible apply lm_wB); (first | exact rfl | exact lm_arB (by omega) | exact lm_arM (by omega)); omega)
    | ((with_reducible apply lm_sAl); (first | exact rfl | exact lm_arB (by omega) | exact lm_arM (by omega)); omega)
    | ((with_reducible apply lm_iW); decide))
  refine lm_cV c3 ?_
  repeat (first
    | ((with_reducible apply lm_sI); exact rfl)
    | ((with_reducible apply lm_sR); exact rfl)
    | ((with_reducible apply lm_sS); exact rfl; exact rfl)
    | ((with_reducible apply lm_sL); exact rfl)
    | ((with_reducible apply lm_sP); exact rfl; exact rfl)
    | ((with_reducible apply lm_sPL); exact rfl; exact rfl)
    | ((with_reducible apply lm_sAA); exact rfl; first | exact rfl | exact lm_roO (by omega) | exact lm_roM (by omega))
    | ((with_reducible apply lm_sI); exact lm_fpL (by omega))
    | ((with_reducible apply lm_sR); exact lm_fpB (by omega))
    | ((with_reducible apply lm_sP); exact lm_fpL (by omega); exact rfl)
    | ((with_reducible apply lm_sS); exact lm_ocO (by omega); exact rfl)
    | ((with_reducible apply lm_sA); exact rfl; omega)
    | ((with_reducible apply lm_sJ); exact rfl; omega)
    | ((with_reducible apply lm_sB); (first | exact rfl | exact lm_arB (by omega) | exact lm_arM (by omega)); omega)
    | ((with_reducible apply lm_wA); exact rfl; omega)
    | ((with_reducible apply lm_wJ); exact rfl; omega)
    | ((with_reducible apply lm_wB); (first | exact rfl | exact lm_arB (by omega) | exact lm_arM (by omega)); omega)
    | ((with_reducible apply lm_sAl); (first | exact rfl | exact lm_arB (by omega) | exact lm_arM (by omega)); omega)
    | ((with_reducible apply lm_iW); decide))
  refine lm_cV c4 ?_
  repeat (first
    | ((with_reducible apply lm_sI); exact rfl)
    | ((with_reducible apply lm_sR); exact rfl)
    | ((with_reducible apply lm_sS); exact rfl; exact rfl)
    | ((with_reducible apply lm_sL); exact rfl)
    | ((with_reducible apply lm_sP); exact rfl; exact rfl)
    | ((with_reducible apply lm_sPL); exact rfl; exact rfl)
    | ((with_reducible apply lm_sAA); exact rfl; first | exact rfl | exact lm_roO (by omega) | exact lm_roM (by omega))
    | ((with_reducible apply lm_sI); exact lm_fpL (by omega))
    | ((with_reducible apply lm_sR); exact lm_fpB (by omega))
    | ((with_reducible apply lm_sP); exact lm_fpL (by omega); exact rfl)
    | ((with_reducible apply lm_sS); exact lm_ocO (by omega); exact rfl)
    | ((with_reducible apply lm_sA); exact rfl; omega)
    | ((with_reducible apply lm_sJ); exact rfl; omega)
    | ((with_reducible apply lm_sB); (first | exact rfl | exact lm_arB (by omega) | exact lm_arM (by omega)); omega)
    | ((with_reducible apply lm_wA); exact rfl; omega)
    | ((with_reducible apply lm_wJ); exact rfl; omega)
    | ((with_reducible apply lm_wB); (first | exact rfl | exact lm_arB (by omega) | exact lm_arM (by omega)); omega)
    | ((with_reducible apply lm_sAl); (first | exact rfl | exact lm_arB (by omega) | exact lm_arM (by omega)); omega)
    | ((with_reducible apply lm_iW); decide))
  simp only [Nat.reduceDiv, Nat.reduceMod]
  rw [e4 m4 d4, eM5, e4 M5 d5, lm_om]
  refine lm_cI uA ?_
  cases b with
  | true => exact lm_iF (show ¬ (1 : Int32) = 0 by decide) rfl
  | false => exact lm_iT (show (0 : Int32) = 0 by decide) rfl
theorem lm_u122d (hs : s ≤ 11) (hl : m 30 1 = Int32.ofNat l) (hl2 : l ≤ 65536) (hr : lm_rom x) : ∃ m', (∀ r, r ≠ 194 → r ≠ 195 → m' r = m r) ∧ (lm_nOk s x2 x3 x4 x5 → l ≠ 4 * lm_sn s → lm_cal (lm_sc xs) (d + 3) 122 [.ref 0, .int (Int32.ofNat s), .int x2, .int x3, .int x4, .int x5] (lm_w m n x) = some (.error (lm_xp x), lm_w m' n (lm_xx 16 x))) ∧ (¬ lm_nOk s x2 x3 x4 x5 → lm_cal (lm_sc xs) (d + 3) 122 [.ref 0, .int (Int32.ofNat s), .int x2, .int x3, .int x4, .int x5] (lm_w m n x) = some (.error (lm_xp x), lm_w m' n (lm_xx 13 x))) := by
  obtain ⟨m1, F1, z1, f1, K1, K2⟩ := lm_l122 (xs := xs) (d := d) (n := n) (x := x) (x2 := x2) (x3 := x3) (x4 := x4) (x5 := x5) hs hl hl2
  refine ⟨m1, f1, fun ok hne => K1 ok _ ?_, fun nok => K2 nok hr⟩
  rw [if_neg hne]
  refine lm_e122_95 ?_
  unfold lm_q122_95
  exact lm_cVe (lm_u160e (d := d + 1) hr)
end LMTB
