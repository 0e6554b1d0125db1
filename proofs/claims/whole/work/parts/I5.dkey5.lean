/-! ===== dsaKeys of the class: the call ===== -/
section LMDS
variable {xs : List Int32} {C : lm_CX} {d s : Nat} {m : lm_MI} {n : lm_ML} {x : lm_H × Nat × Nat}
theorem lm_cdm_DC : lm_DC (lm_cdm m s) s := by
  unfold lm_DC lm_cdm
  refine ⟨?_, ?_, ?_⟩
  · rw [lm_u_ne (by decide), lm_u_ne (by decide), lm_u_eq]
  · rw [lm_u_ne (by decide), lm_u_eq]
  · rw [lm_u_eq]
/-- dsaKeys of the class, RANDOM of 32 bytes -/
theorem lm_u85c (hC : lm_Cok xs C) (hr : ln_rt m) (hx : lm_rom x) (hs : s ≤ 2) (hz : ∀ k, k < 256 → m 77 k = Int32.ofInt (lm_zd k)) (h32 : m 26 1 = Int32.ofNat 32) : (∃ m' n', lm_cal (lm_sc xs) (d + 8) 85 [.ref 0, .int (Int32.ofNat s)] (lm_w m n x) = some (.ok (some (.int (Int32.ofNat (lm_dss s)))), lm_w m' n' x) ∧ lm_xok C (lm_xE C (m 27) s) s ∧ (∀ r, (r < 5 ∨ 22 < r) → r ≠ 28 → r ≠ 29 → r ≠ 30 → r ≠ 31 → r ≠ 76 → (r < 79 ∨ 190 < r) → m' r = m r) ∧ lm_fN m n m' n' ∧ m' 28 1 = Int32.ofNat (32 + 320 * lm_dk s) ∧ m' 30 1 = Int32.ofNat (lm_dss s) ∧ (∀ j, j < 32 + 320 * lm_dk s → lm_yb (m' 29 j) = lm_xpub C (lm_xE C (m 27) s) s j) ∧ ∀ j, j < lm_dss s → lm_yb (m' 31 j) = lm_xsec C (lm_xE C (m 27) s) s j) ∨ ∃ m' n', lm_cal (lm_sc xs) (d + 8) 85 [.ref 0, .int (Int32.ofNat s)] (lm_w m n x) = some (.error (lm_xp x), lm_w m' n' (lm_xx 15 x)) ∧ ¬ lm_xok C (lm_xE C (m 27) s) s ∧ (∀ r, (r < 5 ∨ 22 < r) → r ≠ 76 → (r < 79 ∨ 190 < r) → m' r = m r) ∧ lm_fN m n m' n' := by
  have rk : ∀ r, r ≠ 76 → lm_cdm m s r = m r := fun r hr => lm_cd_row hr
  have f0 : lm_fN m n (lm_cdm m s) n := .of (rk 11 (by decide)) (rk 17 (by decide))
  have start : ∀ R, lm_bind (lm_asV (lm_cal (lm_sc xs) (d + 7) 166 [.ref 76, .ref 27, .ref 28, .ref 30])) (fun _ => lm_bind (lm_gR 2 0) fun v12 => lm_bind (lm_aaR (lm_sc xs) v12 (Int32.ofNat 2)) fun v13 => lm_bind (lm_gI 404 v13) fun v14 => lm_ret (some (.int v14))) (lm_w (lm_cdm m s) n x) = some R → lm_cal (lm_sc xs) (d + 8) 85 [.ref 0, .int (Int32.ofNat s)] (lm_w m n x) = some R := by
    intro R K
    refine lm_cal_of (Y := lm_m85) rfl rfl (lm_e85_0 ?_)
    unfold lm_q85_0
    refine lm_cV (lm_t132n (i := s) (d := d + 6) (n := 2) hs (by omega)) ?_
    rw [lm_K0, lm_K32]
    repeat (first
    | ((with_reducible apply lm_sI); exact rfl)
    | ((with_reducible apply lm_sR); exact rfl)
    | ((with_reducible apply lm_sS); exact rfl; exact rfl)
    | ((with_reducible apply lm_sL); exact rfl)
    | ((with_reducible apply lm_sP); exact rfl; exact rfl)
    | ((with_reducible apply lm_sPL); exact rfl; exact rfl)
    | ((with_reducible apply lm_sAA); exact rfl; first | exact rfl | exact lm_roO (by omega) | exact lm_roM (by omega))
    | ((with_reducible apply lm_sI); exact lm_fpL (by omega))
    | ((with_reducible apply lm_sR); exact lm_fpB (by omega))
    | ((with_reducible apply lm_sP); exact lm_fpL (by omega); exact rfl)
    | ((with_reducible apply lm_sS); exact lm_ocO (by omega); exact rfl)
    | ((with_reducible apply lm_sA); exact rfl; omega)
    | ((with_reducible apply lm_sJ); exact rfl; omega)
    | ((with_reducible apply lm_sB); (first | exact rfl | exact lm_arB (by omega) | exact lm_arM (by omega)); omega)
    | ((with_reducible apply lm_wA); exact rfl; omega)
    | ((with_reducible apply lm_wJ); exact rfl; omega)
    | ((with_reducible apply lm_wB); (first | exact rfl | exact lm_arB (by omega) | exact lm_arM (by omega)); omega)
    | ((with_reducible apply lm_sAl); (first | exact rfl | exact lm_arB (by omega) | exact lm_arM (by omega)); omega)
    | ((with_reducible apply lm_iW); decide))
    simp only [Nat.reduceDiv, Nat.reduceMod, h32]
    refine lm_neF (by omega) (by omega) (by decide) ?_
    refine lm_e85_25 ?_
    unfold lm_q85_25
    refine lm_cV (lm_u150 (d := d + 6)) ?_
    rw [lm_K0, lm_K1, lm_K2]
    repeat (first
    | ((with_reducible apply lm_sI); exact rfl)
    | ((with_reducible apply lm_sR); exact rfl)
    | ((with_reducible apply lm_sS); exact rfl; exact rfl)
    | ((with_reducible apply lm_sL); exact rfl)
    | ((with_reducible apply lm_sP); exact rfl; exact rfl)
    | ((with_reducible apply lm_sPL); exact rfl; exact rfl)
    | ((with_reducible apply lm_sAA); exact rfl; first | exact rfl | exact lm_roO (by omega) | exact lm_roM (by omega))
    | ((with_reducible apply lm_sI); exact lm_fpL (by omega))
    | ((with_reducible apply lm_sR); exact lm_fpB (by omega))
    | ((with_reducible apply lm_sP); exact lm_fpL (by omega); exact rfl)
    | ((with_reducible apply lm_sS); exact lm_ocO (by omega); exact rfl)
    | ((with_reducible apply lm_sA); exact rfl; omega)
    | ((with_reducible apply lm_sJ); exact rfl; omega)
    | ((with_reducible apply lm_sB); (first | exact rfl | exact lm_arB (by omega) | exact lm_arM (by omega)); omega)
    | ((with_reducible apply lm_wA); exact rfl; omega)
    | ((with_reducible apply lm_wJ); exact rfl; omega)
    | ((with_reducible apply lm_wB); (first | exact rfl | exact lm_arB (by omega) | exact lm_arM (by omega)); omega)
    | ((with_reducible apply lm_sAl); (first | exact rfl | exact lm_arB (by omega) | exact lm_arM (by omega)); omega)
    | ((with_reducible apply lm_iW); decide))
    refine lm_cV (lm_u165 (d := d + 6) hs) ?_
    repeat (first
    | ((with_reducible apply lm_sI); exact rfl)
    | ((with_reducible apply lm_sR); exact rfl)
    | ((with_reducible apply lm_sS); exact rfl; exact rfl)
    | ((with_reducible apply lm_sL); exact rfl)
    | ((with_reducible apply lm_sP); exact rfl; exact rfl)
    | ((with_reducible apply lm_sPL); exact rfl; exact rfl)
    | ((with_reducible apply lm_sAA); exact rfl; first | exact rfl | exact lm_roO (by omega) | exact lm_roM (by omega))
    | ((with_reducible apply lm_sI); exact lm_fpL (by omega))
    | ((with_reducible apply lm_sR); exact lm_fpB (by omega))
    | ((with_reducible apply lm_sP); exact lm_fpL (by omega); exact rfl)
    | ((with_reducible apply lm_sS); exact lm_ocO (by omega); exact rfl)
    | ((with_reducible apply lm_sA); exact rfl; omega)
    | ((with_reducible apply lm_sJ); exact rfl; omega)
    | ((with_reducible apply lm_sB); (first | exact rfl | exact lm_arB (by omega) | exact lm_arM (by omega)); omega)
    | ((with_reducible apply lm_wA); exact rfl; omega)
    | ((with_reducible apply lm_wJ); exact rfl; omega)
    | ((with_reducible apply lm_wB); (first | exact rfl | exact lm_arB (by omega) | exact lm_arM (by omega)); omega)
    | ((with_reducible apply lm_sAl); (first | exact rfl | exact lm_arB (by omega) | exact lm_arM (by omega)); omega)
    | ((with_reducible apply lm_iW); decide))
    exact K
  rcases lm_u166 (xs := xs) (d := d) (x := x) (m := lm_cdm m s) (n := n) (C := C) (s := s) hC (f0.rt hr) hx hs lm_cdm_DC (by rw [rk 77 (by decide)]; exact hz) with ⟨m', n', c, a1, a2, a3, a4, a5, a6, a7⟩ | ⟨m', n', c, a1, a2, a3⟩
  · rw [rk 27 (by decide)] at a1 a6 a7
    refine Or.inl ⟨m', n', start _ (lm_cV c ?_), a1, fun r r1 r2 r3 r4 r5 r6 r7 => by rw [a2 r r1 r2 r3 r4 r5 r7, rk r r6], f0.tr a3, a4, a5, a6, a7⟩
    repeat (first
    | ((with_reducible apply lm_sI); exact rfl)
    | ((with_reducible apply lm_sR); exact rfl)
    | ((with_reducible apply lm_sS); exact rfl; exact rfl)
    | ((with_reducible apply lm_sL); exact rfl)
    | ((with_reducible apply lm_sP); exact rfl; exact rfl)
    | ((with_reducible apply lm_sPL); exact rfl; exact rfl)
    | ((with_reducible apply lm_sAA); exact rfl; first | exact rfl | exact lm_roO (by omega) | exact lm_roM (by omega))
    | ((with_reducible apply lm_sI); exact lm_fpL (by omega))
    | ((with_reducible apply lm_sR); exact lm_fpB (by omega))
    | ((with_reducible apply lm_sP); exact lm_fpL (by omega); exact rfl)
    | ((with_reducible apply lm_sS); exact lm_ocO (by omega); exact rfl)
    | ((with_reducible apply lm_sA); exact rfl; omega)
    | ((with_reducible apply lm_sJ); exact rfl; omega)
    | ((with_reducible apply lm_sB); (first | exact rfl | exact lm_arB (by omega) | exact lm_arM (by omega)); omega)
    | ((with_reducible apply lm_wA); exact rfl; omega)
    | ((with_reducible apply lm_wJ); exact rfl; omega)
    | ((with_reducible apply lm_wB); (first | exact rfl | exact lm_arB (by omega) | exact lm_arM (by omega)); omega)
    | ((with_reducible apply lm_sAl); (first | exact rfl | exact lm_arB (by omega) | exact lm_arM (by omega)); omega)
    | ((with_reducible apply lm_iW); decide))
    simp only [Nat.reduceDiv, Nat.reduceMod]
    rw [a5]
    rfl
  · rw [rk 27 (by decide)] at a1
    exact Or.inr ⟨m', n', start _ (lm_cVe c), a1, fun r r1 r2 r3 => by rw [a2 r r1 r3, rk r r2], f0.tr a3⟩
end LMDS
