/-! ===== the class's pack and unpack ===== -/
section LMPK
variable {sc : lm_H} {e d : Nat} {m m0 : lm_MI} {n : lm_ML} {x : lm_H × Nat × Nat} {p q v a : Nat}
theorem lm_p20 {d : Nat} (hd : d ≤ 20) : 2 ^ d ≤ 1048576 := Nat.pow_le_pow_right (by decide) hd
/-- bytes read until there are d bits -/
theorem lm_l227i {i : Nat} (hq : lm_ar q = some (1, v)) (hd1 : 1 ≤ d) (hd : d ≤ 20) (hv : v ≤ 70000) (hi : i < 256) (ha : a + 32 * d ≤ v) {mk : Int32} {R : Except Nat lm_R × lm_S} : ∀ k b nx, b + k = d + 8 → b ≤ d + 7 → i * d + b = 8 * nx → (∀ b nx, d ≤ b → b ≤ d + 7 → i * d + b = 8 * nx → lm_rn sc e lm_m227.2.2.2.2.1 (lm_reg lm_m227.2.2.2.2.2) (26, [(0, .ref q), (2, .int (Int32.ofNat d)), (3, .ref p), (4, .int (Int32.ofNat (ln_bv (ln_bt (fun j => m q (a + j))) (i * d) b))), (5, .int (Int32.ofNat b)), (6, .int (Int32.ofNat (a + nx))), (7, .int mk), (8, .int (Int32.ofNat i))], []) (lm_w m0 n x) = some R) → m0 q = m q → lm_rn sc e lm_m227.2.2.2.2.1 (lm_reg lm_m227.2.2.2.2.2) (26, [(0, .ref q), (2, .int (Int32.ofNat d)), (3, .ref p), (4, .int (Int32.ofNat (ln_bv (ln_bt (fun j => m q (a + j))) (i * d) b))), (5, .int (Int32.ofNat b)), (6, .int (Int32.ofNat (a + nx))), (7, .int mk), (8, .int (Int32.ofNat i))], []) (lm_w m0 n x) = some R := by
  intro k
  induction k using Nat.strongRecOn with
  | ind k ih =>
    intro b nx hk hb hbn K e0
    by_cases c : d ≤ b
    · exact K b nx c hb hbn
    · have hid : i * d + d ≤ 256 * d := by
        rw [← Nat.succ_mul]
        exact Nat.mul_le_mul_right d hi
      have I := ih (k - 8) (by omega) (b + 8) (nx + 1) (by omega) (by omega) (by omega) K e0
      have hlt : ln_bv (ln_bt (fun j => m q (a + j))) (i * d) b < 2 ^ b := lm_bv_lt
      have hlt2 : ln_bv (ln_bt (fun j => m q (a + j))) (i * d) (b + 8) < 2 ^ (b + 8) := lm_bv_lt
      have hp8 : 2 ^ (b + 8) ≤ 2 ^ 28 := Nat.pow_le_pow_right (by decide) (by omega)
      have eb : ln_bv (ln_bt (fun j => m q (a + j))) (i * d) (b + 8) = ln_bv (ln_bt (fun j => m q (a + j))) (i * d) b + lm_yb (m q (a + nx)) * 2 ^ b := by
        rw [lm_bv_add, hbn, lm_bv_yb]
      refine lm_e227_26 ?_
      unfold lm_q227_26
      refine lm_geF (by omega) (by omega) (by omega) ?_
      repeat (first
    | ((with_reducible apply lm_sI); exact rfl)
    | ((with_reducible apply lm_sR); exact rfl)
    | ((with_reducible apply lm_sS); exact rfl; exact rfl)
    | ((with_reducible apply lm_sL); exact rfl)
    | ((with_reducible apply lm_sP); exact rfl; exact rfl)
    | ((with_reducible apply lm_sPL); exact rfl; exact rfl)
    | ((with_reducible apply lm_sAA); exact rfl; exact rfl)
    | ((with_reducible apply lm_sA); (first | exact rfl | assumption); omega)
    | ((with_reducible apply lm_sJ); (first | exact rfl | assumption); omega)
    | ((with_reducible apply lm_sB); (first | exact rfl | assumption); omega)
    | ((with_reducible apply lm_wA); (first | exact rfl | assumption); omega)
    | ((with_reducible apply lm_wJ); (first | exact rfl | assumption); omega)
    | ((with_reducible apply lm_wB); (first | exact rfl | assumption); omega)
    | ((with_reducible apply lm_sAl); (first | exact rfl | assumption); omega)
    | ((with_reducible apply lm_iW); decide))
      rw [e0, lm_b8u, lm_orsh hlt (by omega) (by rw [← eb]; omega), lm_K8, lm_K1, lm_oo, lm_oo, ← eb]
      exact I
theorem lm_u227 (hq : lm_ar q = some (1, v)) (hp : lm_ar p = some (0, 256)) (hqp : q ≠ p) (hd1 : 1 ≤ d) (hd : d ≤ 20) (hv : v ≤ 70000) (ha : a + 32 * d ≤ v) : ∃ m', lm_cal sc (e + 1) 227 [.ref q, .int (Int32.ofNat a), .int (Int32.ofNat d), .ref p] (lm_w m n x) = some (.ok none, lm_w m' n x) ∧ lm_PA m m' p (fun i => (ln_bv (ln_bt (fun j => m q (a + j))) (i * d) d : Nat)) := by
  have hmain : ∀ k i b nx (m1 : lm_MI), i + k = 256 → b ≤ 7 → i * d + b = 8 * nx → (∀ r, r ≠ p → m1 r = m r) → (∀ j, j < i → m1 p j = Int32.ofNat (ln_bv (ln_bt (fun j => m q (a + j))) (j * d) d)) → ∃ m', (∀ r, r ≠ p → m' r = m r) ∧ (∀ j, j < 256 → m' p j = Int32.ofNat (ln_bv (ln_bt (fun j => m q (a + j))) (j * d) d)) ∧ lm_rn sc e lm_m227.2.2.2.2.1 (lm_reg lm_m227.2.2.2.2.2) (19, [(0, .ref q), (2, .int (Int32.ofNat d)), (3, .ref p), (4, .int (Int32.ofNat (ln_bv (ln_bt (fun j => m q (a + j))) (i * d) b))), (5, .int (Int32.ofNat b)), (6, .int (Int32.ofNat (a + nx))), (7, .int (Int32.ofNat (2 ^ d - 1))), (8, .int (Int32.ofNat i))], []) (lm_w m1 n x) = some (.ok none, lm_w m' n x) := by
    intro k
    induction k with
    | zero =>
      intro i b nx m1 hk hb hbn h0 h1
      have e : i = 256 := hk
      subst e
      refine ⟨m1, h0, h1, lm_e227_19 ?_⟩
      unfold lm_q227_19
      repeat (first
    | ((with_reducible apply lm_sI); exact rfl)
    | ((with_reducible apply lm_sR); exact rfl)
    | ((with_reducible apply lm_sS); exact rfl; exact rfl)
    | ((with_reducible apply lm_sL); exact rfl)
    | ((with_reducible apply lm_sP); exact rfl; exact rfl)
    | ((with_reducible apply lm_sPL); exact rfl; exact rfl)
    | ((with_reducible apply lm_sAA); exact rfl; exact rfl)
    | ((with_reducible apply lm_sA); (first | exact rfl | assumption); omega)
    | ((with_reducible apply lm_sJ); (first | exact rfl | assumption); omega)
    | ((with_reducible apply lm_sB); (first | exact rfl | assumption); omega)
    | ((with_reducible apply lm_wA); (first | exact rfl | assumption); omega)
    | ((with_reducible apply lm_wJ); (first | exact rfl | assumption); omega)
    | ((with_reducible apply lm_wB); (first | exact rfl | assumption); omega)
    | ((with_reducible apply lm_sAl); (first | exact rfl | assumption); omega)
    | ((with_reducible apply lm_iW); decide))
      exact lm_geT (by omega) (by omega) (by omega) rfl
    | succ k ih =>
      intro i b nx m1 hk hb hbn h0 h1
      have hsd : (i + 1) * d = i * d + d := Nat.succ_mul i d
      have hb2 : ∀ B NX, d ≤ B → B ≤ d + 7 → i * d + B = 8 * NX → (i + 1) * d + (B - d) = 8 * NX := fun B NX g1 g2 g3 => by omega
      have hI : ∀ B NX, d ≤ B → B ≤ d + 7 → i * d + B = 8 * NX → ∃ m', (∀ r, r ≠ p → m' r = m r) ∧ (∀ j, j < 256 → m' p j = Int32.ofNat (ln_bv (ln_bt (fun j => m q (a + j))) (j * d) d)) ∧ lm_rn sc e lm_m227.2.2.2.2.1 (lm_reg lm_m227.2.2.2.2.2) (26, [(0, .ref q), (2, .int (Int32.ofNat d)), (3, .ref p), (4, .int (Int32.ofNat (ln_bv (ln_bt (fun j => m q (a + j))) (i * d) B))), (5, .int (Int32.ofNat B)), (6, .int (Int32.ofNat (a + NX))), (7, .int (Int32.ofNat (2 ^ d - 1))), (8, .int (Int32.ofNat i))], []) (lm_w m1 n x) = some (.ok none, lm_w m' n x) := by
        intro B NX g1 g2 g3
        have hlt : ln_bv (ln_bt (fun j => m q (a + j))) (i * d) B < 2 ^ B := lm_bv_lt
        have hp27 : 2 ^ B ≤ 2 ^ 27 := Nat.pow_le_pow_right (by decide) (by omega)
        have eB : B = d + (B - d) := by omega
        have ed : ln_bv (ln_bt (fun j => m q (a + j))) (i * d) B / 2 ^ d = ln_bv (ln_bt (fun j => m q (a + j))) ((i + 1) * d) (B - d) := by
          conv => lhs; rw [eB]
          rw [lm_bv_div, hsd]
        have em : ln_bv (ln_bt (fun j => m q (a + j))) (i * d) B % 2 ^ d = ln_bv (ln_bt (fun j => m q (a + j))) (i * d) d := by
          conv => lhs; rw [eB]
          rw [lm_bv_mod]
        obtain ⟨m', f0, f1, f2⟩ := ih (i + 1) (B - d) NX (lm_u m1 p i (Int32.ofNat (ln_bv (ln_bt (fun j => m q (a + j))) (i * d) d))) (by omega) (by omega) (hb2 B NX g1 g2 g3) (fun r hr => (lm_u_row hr).trans (h0 r hr)) (fun j hj => by
          by_cases c : j = i
          · subst c; rw [lm_u_eq]
          · rw [lm_u_ne (by omega)]; exact h1 j (by omega))
        refine ⟨m', f0, f1, lm_e227_26 ?_⟩
        unfold lm_q227_26
        refine lm_geT (by omega) (by omega) (by omega) ?_
        rw [lm_andm (by omega) (by omega), em, lm_usn (by omega) (by omega), ed, lm_osu (by omega), lm_K1, lm_oo]
        repeat (first
    | ((with_reducible apply lm_sI); exact rfl)
    | ((with_reducible apply lm_sR); exact rfl)
    | ((with_reducible apply lm_sS); exact rfl; exact rfl)
    | ((with_reducible apply lm_sL); exact rfl)
    | ((with_reducible apply lm_sP); exact rfl; exact rfl)
    | ((with_reducible apply lm_sPL); exact rfl; exact rfl)
    | ((with_reducible apply lm_sAA); exact rfl; exact rfl)
    | ((with_reducible apply lm_sA); (first | exact rfl | assumption); omega)
    | ((with_reducible apply lm_sJ); (first | exact rfl | assumption); omega)
    | ((with_reducible apply lm_sB); (first | exact rfl | assumption); omega)
    | ((with_reducible apply lm_wA); (first | exact rfl | assumption); omega)
    | ((with_reducible apply lm_wJ); (first | exact rfl | assumption); omega)
    | ((with_reducible apply lm_wB); (first | exact rfl | assumption); omega)
    | ((with_reducible apply lm_sAl); (first | exact rfl | assumption); omega)
    | ((with_reducible apply lm_iW); decide))
        exact f2
      obtain ⟨B, NX, gB⟩ : ∃ B NX, d ≤ B ∧ B ≤ d + 7 ∧ i * d + B = 8 * NX ∧ (∀ R, lm_rn sc e lm_m227.2.2.2.2.1 (lm_reg lm_m227.2.2.2.2.2) (26, [(0, .ref q), (2, .int (Int32.ofNat d)), (3, .ref p), (4, .int (Int32.ofNat (ln_bv (ln_bt (fun j => m q (a + j))) (i * d) B))), (5, .int (Int32.ofNat B)), (6, .int (Int32.ofNat (a + NX))), (7, .int (Int32.ofNat (2 ^ d - 1))), (8, .int (Int32.ofNat i))], []) (lm_w m1 n x) = some R → lm_rn sc e lm_m227.2.2.2.2.1 (lm_reg lm_m227.2.2.2.2.2) (26, [(0, .ref q), (2, .int (Int32.ofNat d)), (3, .ref p), (4, .int (Int32.ofNat (ln_bv (ln_bt (fun j => m q (a + j))) (i * d) b))), (5, .int (Int32.ofNat b)), (6, .int (Int32.ofNat (a + nx))), (7, .int (Int32.ofNat (2 ^ d - 1))), (8, .int (Int32.ofNat i))], []) (lm_w m1 n x) = some R) := by
        refine ⟨b + 8 * ((d - b + 7) / 8), nx + (d - b + 7) / 8, by omega, by omega, by omega, fun R K => ?_⟩
        refine lm_l227i hq hd1 hd hv (by omega) ha (d + 8 - b) b nx (by omega) (by omega) hbn (fun b' nx' c1 c2 c3 => ?_) (h0 q hqp)
        have e1 : b' = b + 8 * ((d - b + 7) / 8) := by omega
        have e2 : nx' = nx + (d - b + 7) / 8 := by omega
        subst e1
        subst e2
        exact K
      obtain ⟨m', f0, f1, f2⟩ := hI B NX gB.1 gB.2.1 gB.2.2.1
      refine ⟨m', f0, f1, lm_e227_19 ?_⟩
      unfold lm_q227_19
      repeat (first
    | ((with_reducible apply lm_sI); exact rfl)
    | ((with_reducible apply lm_sR); exact rfl)
    | ((with_reducible apply lm_sS); exact rfl; exact rfl)
    | ((with_reducible apply lm_sL); exact rfl)
    | ((with_reducible apply lm_sP); exact rfl; exact rfl)
    | ((with_reducible apply lm_sPL); exact rfl; exact rfl)
    | ((with_reducible apply lm_sAA); exact rfl; exact rfl)
    | ((with_reducible apply lm_sA); (first | exact rfl | assumption); omega)
    | ((with_reducible apply lm_sJ); (first | exact rfl | assumption); omega)
    | ((with_reducible apply lm_sB); (first | exact rfl | assumption); omega)
    | ((with_reducible apply lm_wA); (first | exact rfl | assumption); omega)
    | ((with_reducible apply lm_wJ); (first | exact rfl | assumption); omega)
    | ((with_reducible apply lm_wB); (first | exact rfl | assumption); omega)
    | ((with_reducible apply lm_sAl); (first | exact rfl | assumption); omega)
    | ((with_reducible apply lm_iW); decide))
      refine lm_geF (by omega) (by omega) (by omega) ?_
      exact gB.2.2.2 _ f2
  obtain ⟨m', f0, f1, f2⟩ := hmain 256 0 0 0 m (by omega) (by omega) (by omega) (fun _ _ => rfl) (fun j hj => absurd hj (by omega))
  refine ⟨m', ?_, f0, fun j hj => (f1 j hj).trans (lm_oN _)⟩
  refine lm_cal_of (Y := lm_m227) rfl rfl (lm_e227_0 ?_)
  unfold lm_q227_0
  rw [lm_msk (by omega), lm_K0]
  exact f2
end LMPK
