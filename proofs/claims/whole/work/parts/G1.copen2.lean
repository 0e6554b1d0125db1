/-! ===== kemOpen of the class: the call ===== -/
section LMOD
variable {xs : List Int32} {sc : lm_H} {C : lm_CX} {d k e s : Nat} {m : lm_MI} {n : lm_ML} {x : lm_H × Nat × Nat}
theorem lm_u162 {l : Nat} (hs : s ≤ 2) (hK : lm_KC m s) (hl : m 36 1 = Int32.ofNat l) (hl2 : l ≤ 65536) : lm_cal sc (d + 2) 162 [.ref 44, .ref 36] (lm_w m n x) = some (.ok (some (.int (lm_z (decide (l = lm_kps s))))), lm_w m n x) := by
  have hp := lm_kusz hs
  refine lm_cal_of (Y := lm_m162) rfl rfl (lm_e162_0 ?_)
  unfold lm_q162_0
  repeat (first
    | ((with_reducible apply lm_sI); exact rfl)
    | ((with_reducible apply lm_sR); exact rfl)
    | ((with_reducible apply lm_sS); exact rfl; exact rfl)
    | ((with_reducible apply lm_sL); exact rfl)
    | ((with_reducible apply lm_sP); exact rfl; exact rfl)
    | ((with_reducible apply lm_sPL); exact rfl; exact rfl)
    | ((with_reducible apply lm_sAA); exact rfl; exact rfl)
    | ((with_reducible apply lm_sA); (first | exact rfl | assumption); omega)
    | ((with_reducible apply lm_sJ); (first | exact rfl | assumption); omega)
    | ((with_reducible apply lm_sB); (first | exact rfl | assumption); omega)
    | ((with_reducible apply lm_wA); (first | exact rfl | assumption); omega)
    | ((with_reducible apply lm_wJ); (first | exact rfl | assumption); omega)
    | ((with_reducible apply lm_wB); (first | exact rfl | assumption); omega)
    | ((with_reducible apply lm_sAl); (first | exact rfl | assumption); omega)
    | ((with_reducible apply lm_iW); decide))
  simp only [Nat.reduceDiv, Nat.reduceMod]
  rw [hl]
  refine lm_cI (lm_u229' (d := d) hK.1 hK.2.2.1 hK.2.2.2) ?_
  by_cases c : l = lm_kps s
  · rw [decide_eq_true c]
    refine lm_neF (by omega) (by omega) (fun g => g c) (lm_iW (by decide) ?_)
    rfl
  · rw [decide_eq_false c]
    refine lm_neT (by omega) (by omega) c (lm_iW (by decide) ?_)
    rfl
/-- what kemOpen asks of both -/
def lm_ook (C : lm_CX) (S : Nat → Int32) (s l l2 : Nat) : Prop := l = lm_kps s ∧ l2 = 768 * (s + 2) + 96 ∧ lm_kok C S (s + 2)
/-- kemOpen of the class -/
theorem lm_u79c {l l2 : Nat} (hC : lm_Cok xs C) (hr : ln_rt m) (ht : lm_Ktb m) (hx : lm_rom x) (hs : s ≤ 2) (hl : m 36 1 = Int32.ofNat l) (hl2 : l ≤ 65536) (hk : m 30 1 = Int32.ofNat l2) (hk2 : l2 ≤ 65536) : (lm_ook C (m 31) s l l2 ∧ ((∃ m' n' b, lm_cal (lm_sc xs) (d + 9) 79 [.ref 0, .int (Int32.ofNat s)] (lm_w m n x) = some (.ok (some (.int (lm_z b))), lm_w m' n' x) ∧ lm_kAll C (m 31) (384 * (s + 2) + 384 * (s + 2)) (s + 2) ∧ (∀ r, (r < 5 ∨ 22 < r) → r ≠ 44 → (r < 48 ∨ 75 < r) → r ≠ 38 → r ≠ 39 → m' r = m r) ∧ lm_fN m n m' n' ∧ m' 38 1 = Int32.ofNat 32 ∧ (b = true ↔ ln_oE C (m 31) (m 37) s) ∧ ∀ j, j < 32 → m' 39 j = cond b (ln_oP C (m 31) (m 37) s j) (ln_oJ C (m 31) (m 37) s j)) ∨ ∃ m' n', lm_cal (lm_sc xs) (d + 9) 79 [.ref 0, .int (Int32.ofNat s)] (lm_w m n x) = some (.error (lm_xp x), lm_w m' n' (lm_xx 15 x)) ∧ ¬ lm_kAll C (m 31) (384 * (s + 2) + 384 * (s + 2)) (s + 2) ∧ (∀ r, (r < 5 ∨ 22 < r) → r ≠ 44 → (r < 48 ∨ 75 < r) → m' r = m r) ∧ lm_fN m n m' n')) ∨ (¬ lm_ook C (m 31) s l l2 ∧ ∃ m' n', lm_cal (lm_sc xs) (d + 9) 79 [.ref 0, .int (Int32.ofNat s)] (lm_w m n x) = some (.error (lm_xp x), lm_w m' n' (lm_xx 16 x)) ∧ (∀ r, (r < 5 ∨ 22 < r) → r ≠ 44 → r ≠ 74 → m' r = m r) ∧ lm_fN m n m' n') := by
  have q0 := lm_ck_KC (m := m) hs
  have rk : ∀ r, r ≠ 44 → lm_ck m s r = m r := fun r hr => lm_ck_row hr
  have f0 : lm_fN m n (lm_ck m s) n := .of (rk 11 (by decide)) (rk 17 (by decide))
  have c1 := lm_u162 (sc := lm_sc xs) (d := d + 6) (m := lm_ck m s) (n := n) (x := x) (s := s) (l := l) hs q0 (by rw [rk 36 (by decide)]; exact hl) hl2
  by_cases cl : l = lm_kps s
  · rw [decide_eq_true cl] at c1
    obtain ⟨m1, n1, f1, g1, o1⟩ := lm_u163 (xs := xs) (d := d + 2) (n := n) (x := x) (m := lm_ck m s) (k := s + 2) (l := l2) hC (f0.rt hr) q0.1 (by omega) (by rw [rk 30 (by decide)]; exact hk) hk2
    rw [rk 31 (by decide)] at o1
    have rr : ∀ r, (r < 5 ∨ 22 < r) → r ≠ 44 → r ≠ 74 → m1 r = m r := fun r q1 q2 q3 => by rw [f1 r q1 q3, rk r q2]
    have start : ∀ R, lm_bind (lm_asI (lm_cal (lm_sc xs) (d + 8) 163 [.ref 44, .ref 30])) (fun v12 => lm_if .eq v12 0 (lm_rn (lm_sc xs) (d + 8) lm_m79.2.2.2.2.1 (lm_reg lm_m79.2.2.2.2.2) (50, [(0, .ref 0)], [])) (lm_rn (lm_sc xs) (d + 8) lm_m79.2.2.2.2.1 (lm_reg lm_m79.2.2.2.2.2) (51, [(0, .ref 0)], [.int (Int32.ofInt 1)]))) (lm_w (lm_ck m s) n x) = some R → lm_cal (lm_sc xs) (d + 9) 79 [.ref 0, .int (Int32.ofNat s)] (lm_w m n x) = some R := by
      intro R K
      refine lm_cal_of (Y := lm_m79) rfl rfl (lm_e79_0 ?_)
      unfold lm_q79_0
      refine lm_cV (lm_t132n (i := s) (d := d + 7) (n := 2) hs (by omega)) ?_
      repeat (first
    | ((with_reducible apply lm_sI); exact rfl)
    | ((with_reducible apply lm_sR); exact rfl)
    | ((with_reducible apply lm_sS); exact rfl; exact rfl)
    | ((with_reducible apply lm_sL); exact rfl)
    | ((with_reducible apply lm_sP); exact rfl; exact rfl)
    | ((with_reducible apply lm_sPL); exact rfl; exact rfl)
    | ((with_reducible apply lm_sAA); exact rfl; first | exact rfl | exact lm_roO (by omega) | exact lm_roM (by omega))
    | ((with_reducible apply lm_sI); exact lm_fpL (by omega))
    | ((with_reducible apply lm_sR); exact lm_fpB (by omega))
    | ((with_reducible apply lm_sP); exact lm_fpL (by omega); exact rfl)
    | ((with_reducible apply lm_sS); exact lm_ocO (by omega); exact rfl)
    | ((with_reducible apply lm_sA); exact rfl; omega)
    | ((with_reducible apply lm_sJ); exact rfl; omega)
    | ((with_reducible apply lm_sB); (first | exact rfl | exact lm_arB (by omega) | exact lm_arM (by omega)); omega)
    | ((with_reducible apply lm_wA); exact rfl; omega)
    | ((with_reducible apply lm_wJ); exact rfl; omega)
    | ((with_reducible apply lm_wB); (first | exact rfl | exact lm_arB (by omega) | exact lm_arM (by omega)); omega)
    | ((with_reducible apply lm_sAl); (first | exact rfl | exact lm_arB (by omega) | exact lm_arM (by omega)); omega)
    | ((with_reducible apply lm_iW); decide))
      refine lm_cV (show lm_cal (lm_sc xs) (d + 8) 151 [.ref 44, .int (Int32.ofNat s)] (lm_w m n x) = some (.ok none, lm_w (lm_ck m s) n x) from lm_u151 (d := d + 7) hs) ?_
      rw [lm_K5, lm_K2]
      repeat (first
    | ((with_reducible apply lm_sI); exact rfl)
    | ((with_reducible apply lm_sR); exact rfl)
    | ((with_reducible apply lm_sS); exact rfl; exact rfl)
    | ((with_reducible apply lm_sL); exact rfl)
    | ((with_reducible apply lm_sP); exact rfl; exact rfl)
    | ((with_reducible apply lm_sPL); exact rfl; exact rfl)
    | ((with_reducible apply lm_sAA); exact rfl; first | exact rfl | exact lm_roO (by omega) | exact lm_roM (by omega))
    | ((with_reducible apply lm_sI); exact lm_fpL (by omega))
    | ((with_reducible apply lm_sR); exact lm_fpB (by omega))
    | ((with_reducible apply lm_sP); exact lm_fpL (by omega); exact rfl)
    | ((with_reducible apply lm_sS); exact lm_ocO (by omega); exact rfl)
    | ((with_reducible apply lm_sA); exact rfl; omega)
    | ((with_reducible apply lm_sJ); exact rfl; omega)
    | ((with_reducible apply lm_sB); (first | exact rfl | exact lm_arB (by omega) | exact lm_arM (by omega)); omega)
    | ((with_reducible apply lm_wA); exact rfl; omega)
    | ((with_reducible apply lm_wJ); exact rfl; omega)
    | ((with_reducible apply lm_wB); (first | exact rfl | exact lm_arB (by omega) | exact lm_arM (by omega)); omega)
    | ((with_reducible apply lm_sAl); (first | exact rfl | exact lm_arB (by omega) | exact lm_arM (by omega)); omega)
    | ((with_reducible apply lm_iW); decide))
      refine lm_cI c1 ?_
      refine lm_iF (show ¬ (1 : Int32) = 0 by decide) ?_
      repeat (first
    | ((with_reducible apply lm_sI); exact rfl)
    | ((with_reducible apply lm_sR); exact rfl)
    | ((with_reducible apply lm_sS); exact rfl; exact rfl)
    | ((with_reducible apply lm_sL); exact rfl)
    | ((with_reducible apply lm_sP); exact rfl; exact rfl)
    | ((with_reducible apply lm_sPL); exact rfl; exact rfl)
    | ((with_reducible apply lm_sAA); exact rfl; first | exact rfl | exact lm_roO (by omega) | exact lm_roM (by omega))
    | ((with_reducible apply lm_sI); exact lm_fpL (by omega))
    | ((with_reducible apply lm_sR); exact lm_fpB (by omega))
    | ((with_reducible apply lm_sP); exact lm_fpL (by omega); exact rfl)
    | ((with_reducible apply lm_sS); exact lm_ocO (by omega); exact rfl)
    | ((with_reducible apply lm_sA); exact rfl; omega)
    | ((with_reducible apply lm_sJ); exact rfl; omega)
    | ((with_reducible apply lm_sB); (first | exact rfl | exact lm_arB (by omega) | exact lm_arM (by omega)); omega)
    | ((with_reducible apply lm_wA); exact rfl; omega)
    | ((with_reducible apply lm_wJ); exact rfl; omega)
    | ((with_reducible apply lm_wB); (first | exact rfl | exact lm_arB (by omega) | exact lm_arM (by omega)); omega)
    | ((with_reducible apply lm_sAl); (first | exact rfl | exact lm_arB (by omega) | exact lm_arM (by omega)); omega)
    | ((with_reducible apply lm_iW); decide))
      exact K
    rcases o1 with ⟨⟨o1, o2⟩, c2⟩ | ⟨o1, c2⟩
    · refine Or.inl ⟨⟨cl, o1, o2⟩, ?_⟩
      have e44 : m1 44 = lm_ck m s 44 := f1 44 (by decide) (by decide)
      have start2 : ∀ R, lm_bind (lm_asI (lm_cal (lm_sc xs) (d + 8) 164 [.ref 44, .ref 31, .ref 36, .ref 38])) (fun v10 => lm_if .eq v10 0 (lm_ret (some (.int (Int32.ofInt 0)))) (lm_ret (some (.int (Int32.ofInt 1))))) (lm_w m1 n1 x) = some R → lm_cal (lm_sc xs) (d + 9) 79 [.ref 0, .int (Int32.ofNat s)] (lm_w m n x) = some R := by
        intro R K
        refine start R (lm_cI c2 ?_)
        refine lm_iF (show ¬ (1 : Int32) = 0 by decide) (lm_e79_51 ?_)
        unfold lm_q79_51
        refine lm_cV (lm_u160 (d := d + 7)) ?_
        rw [lm_K2, lm_K5, lm_K6]
        repeat (first
    | ((with_reducible apply lm_sI); exact rfl)
    | ((with_reducible apply lm_sR); exact rfl)
    | ((with_reducible apply lm_sS); exact rfl; exact rfl)
    | ((with_reducible apply lm_sL); exact rfl)
    | ((with_reducible apply lm_sP); exact rfl; exact rfl)
    | ((with_reducible apply lm_sPL); exact rfl; exact rfl)
    | ((with_reducible apply lm_sAA); exact rfl; first | exact rfl | exact lm_roO (by omega) | exact lm_roM (by omega))
    | ((with_reducible apply lm_sI); exact lm_fpL (by omega))
    | ((with_reducible apply lm_sR); exact lm_fpB (by omega))
    | ((with_reducible apply lm_sP); exact lm_fpL (by omega); exact rfl)
    | ((with_reducible apply lm_sS); exact lm_ocO (by omega); exact rfl)
    | ((with_reducible apply lm_sA); exact rfl; omega)
    | ((with_reducible apply lm_sJ); exact rfl; omega)
    | ((with_reducible apply lm_sB); (first | exact rfl | exact lm_arB (by omega) | exact lm_arM (by omega)); omega)
    | ((with_reducible apply lm_wA); exact rfl; omega)
    | ((with_reducible apply lm_wJ); exact rfl; omega)
    | ((with_reducible apply lm_wB); (first | exact rfl | exact lm_arB (by omega) | exact lm_arM (by omega)); omega)
    | ((with_reducible apply lm_sAl); (first | exact rfl | exact lm_arB (by omega) | exact lm_arM (by omega)); omega)
    | ((with_reducible apply lm_iW); decide))
        exact K
      rcases lm_u164 (xs := xs) (d := d) (x := x) (m := m1) (n := n1) (C := C) (s := s) hC (g1.rt (f0.rt hr)) ⟨by rw [rr 45 (by decide) (by decide) (by decide)]; exact ht.1, by rw [rr 46 (by decide) (by decide) (by decide)]; exact ht.2⟩ hx hs ⟨by rw [e44]; exact q0.1, by rw [e44]; exact q0.2.1, by rw [e44]; exact q0.2.2.1, by rw [e44]; exact q0.2.2.2⟩ (by rw [rr 36 (by decide) (by decide) (by decide), hl, cl]) with ⟨m', n', b, c, a1, a2, a3, a4, a5, a6⟩ | ⟨m', n', c, a1, a2, a3⟩
      · rw [rr 31 (by decide) (by decide) (by decide)] at a1 a5 a6
        rw [rr 37 (by decide) (by decide) (by decide)] at a5 a6
        refine Or.inl ⟨m', n', b, start2 _ (lm_cI c ?_), a1, fun r r1 r2 r3 r4 r5 => by rw [a2 r r1 r3 r4 r5, rr r r1 r2 (by omega)], f0.tr (g1.tr a3), a4, a5, a6⟩
        cases b with
        | true => exact lm_iF (show ¬ (1 : Int32) = 0 by decide) rfl
        | false => exact lm_iT (show (0 : Int32) = 0 by decide) rfl
      · rw [rr 31 (by decide) (by decide) (by decide)] at a1
        exact Or.inr ⟨m', n', start2 _ (lm_cIe c), a1, fun r r1 r2 r3 => by rw [a2 r r1 r3, rr r r1 r2 (by omega)], f0.tr (g1.tr a3)⟩
    · refine Or.inr ⟨fun g => o1 g.2, m1, n1, start _ (lm_cI c2 ?_), rr, f0.tr g1⟩
      refine lm_iT (show (0 : Int32) = 0 by decide) ?_
      refine lm_e79_50 ?_
      unfold lm_q79_50
      refine lm_e79_51 ?_
      unfold lm_q79_51
      exact lm_cVe (lm_u160e hx)
  · refine Or.inr ⟨fun g => cl g.1, lm_ck m s, n, lm_u79b (d := d + 6) hs hl hl2 cl hx, fun r _ q _ => rk r q, f0⟩
end LMOD
