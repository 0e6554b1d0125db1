/-! ===== what is signed: the reference ===== -/
section LMRU
variable {sc : lm_H} {C : lm_CX} {d kk xl ml k L : Nat} {m m0 : lm_MI} {n n0 : lm_ML} {x : lm_H × Nat × Nat} {X Mg G : Nat → Int32}
theorem ln_u96 (hk : kk ≤ 13) (hx : m 214 4 = Int32.ofNat xl) (hxl : xl ≤ 65536) : lm_cal sc (d + 1) 96 [.ref 203, .int (ln_kd kk)] (lm_w m n x) = some (.ok (some (.int (lm_z (decide (kk = 0 ∨ xl ≤ 255))))), lm_w m n x) := by
  have e17 : lm_rn sc d lm_m96.2.2.2.2.1 (lm_reg lm_m96.2.2.2.2.2) (16, [], []) (lm_w m n x) = some (.ok (some (.int (lm_z true))), lm_w m n x) := by
    refine lm_e96_16 ?_
    unfold lm_q96_16
    exact lm_iW (by decide) rfl
  refine lm_cal_of (Y := lm_m96) rfl rfl (lm_e96_0 ?_)
  unfold lm_q96_0
  by_cases c0 : kk = 0
  · rw [decide_eq_true (Or.inl c0)]
    unfold ln_kd
    refine lm_zltT (b := 0) (by omega) (by omega) (by omega) ?_
    exact e17
  · unfold ln_kd
    refine lm_zltF (b := 0) (by omega) (by omega) (by omega) ?_
    rw [lm_K4]
    repeat (first
    | ((with_reducible apply lm_sI); exact rfl)
    | ((with_reducible apply lm_sR); exact rfl)
    | ((with_reducible apply lm_sS); exact rfl; exact rfl)
    | ((with_reducible apply lm_sL); exact rfl)
    | ((with_reducible apply lm_sP); exact rfl; exact rfl)
    | ((with_reducible apply lm_sPL); exact rfl; exact rfl)
    | ((with_reducible apply lm_sAA); exact rfl; exact rfl)
    | ((with_reducible apply lm_sA); (first | exact rfl | assumption); omega)
    | ((with_reducible apply lm_sJ); (first | exact rfl | assumption); omega)
    | ((with_reducible apply lm_sB); (first | exact rfl | assumption); omega)
    | ((with_reducible apply lm_wA); (first | exact rfl | assumption); omega)
    | ((with_reducible apply lm_wJ); (first | exact rfl | assumption); omega)
    | ((with_reducible apply lm_wB); (first | exact rfl | assumption); omega)
    | ((with_reducible apply lm_sAl); (first | exact rfl | assumption); omega)
    | ((with_reducible apply lm_iW); decide))
    rw [hx, lm_K255]
    by_cases c1 : xl ≤ 255
    · rw [decide_eq_true (Or.inr c1)]
      refine lm_gtF (by omega) (by omega) (by omega) ?_
      exact e17
    · rw [decide_eq_false (by omega)]
      refine lm_gtT (by omega) (by omega) (by omega) ?_
      exact lm_iW (by decide) rfl
/-- before -/
theorem lm_u111 (hC : lm_cx m n = C) (hk : kk ≤ 13) (hm : m 214 3 = Int32.ofNat ml) (hml : ml ≤ 65536) (hM : ∀ t, t < ml → lm_b8 (m 209 t) = lm_b8 (Mg t)) : ∃ m' n', lm_cal sc (d + 6) 111 [.ref 203, .int (ln_kd kk)] (lm_w m n x) = some (.ok none, lm_w m' n' x) ∧ (∀ r, r ≠ 203 → r ≠ 227 → r ≠ 329 → m' r = m r) ∧ lm_fG m n m' n' ∧ (2 ≤ kk → ∀ t, t < lm_dg (kk - 1) → m' 329 t = lm_sgd C kk Mg ml t) := by
  by_cases c : 2 ≤ kk
  · have hdg := lm_dg_le (kk - 1)
    obtain ⟨m1, n1, c1, s1, f1⟩ := lm_rS (sc := sc) (d := d + 3) (x := x) (k := kk - 1) (G := fun t => lm_b8 (Mg t)) hC (by omega) (by omega)
    have C1 := f1.cx.trans hC
    obtain ⟨m2, n2, c2, s2, f2⟩ := lm_rA (sc := sc) (d := d + 1) (x := x) (k := kk - 1) (q := 209) (v := 65536) (a := 0) (l := ml) (L := 0) (G := fun t => lm_b8 (Mg t)) C1 (by omega) (by decide) rfl (by omega) (by decide) (fun t ht => by
      rw [f1.1 209 (by decide) (by decide), Nat.zero_add]
      exact hM t ht) s1
    have C2 := f2.cx.trans C1
    rw [Nat.zero_add] at s2
    obtain ⟨m3, n3, c3, f3⟩ := lm_rG (sc := sc) (d := d) (x := x) (k := kk - 1) (q := 329) (v := 64) (a := 0) (l := lm_dg (kk - 1)) C2 (by omega) (by decide) rfl (by omega) (by decide) (lm_dg_k (by omega) (by omega)) s2
    have fh := f1.tr (f2.tr f3)
    refine ⟨lm_fil m3 329 0 (0 + lm_dg (kk - 1)) (fun i => lm_Hm C (kk - 1) (fun t => lm_b8 (Mg t)) ml (i - 0)), n3, ?_, fun r q1 q2 q3 => by rw [lm_fl_row q3, fh.1 r q1 q2], fh.G.tr ⟨fun j _ _ _ => by rw [lm_fl_row (by decide)], fun _ _ _ _ _ _ _ => rfl⟩, fun _ t ht => ?_⟩
    · refine lm_cal_of (Y := lm_m111) rfl rfl (lm_e111_0 ?_)
      unfold lm_q111_0
      rw [ln_kd_n (by omega), lm_K1, lm_K3, lm_K0]
      refine lm_geT (by omega) (by omega) (by omega) ?_
      repeat (first
    | ((with_reducible apply lm_sI); exact rfl)
    | ((with_reducible apply lm_sR); exact rfl)
    | ((with_reducible apply lm_sS); exact rfl; exact rfl)
    | ((with_reducible apply lm_sL); exact rfl)
    | ((with_reducible apply lm_sP); exact rfl; exact rfl)
    | ((with_reducible apply lm_sPL); exact rfl; exact rfl)
    | ((with_reducible apply lm_sAA); exact rfl; exact rfl)
    | ((with_reducible apply lm_sA); (first | exact rfl | assumption); omega)
    | ((with_reducible apply lm_sJ); (first | exact rfl | assumption); omega)
    | ((with_reducible apply lm_sB); (first | exact rfl | assumption); omega)
    | ((with_reducible apply lm_wA); (first | exact rfl | assumption); omega)
    | ((with_reducible apply lm_wJ); (first | exact rfl | assumption); omega)
    | ((with_reducible apply lm_wB); (first | exact rfl | assumption); omega)
    | ((with_reducible apply lm_sAl); (first | exact rfl | assumption); omega)
    | ((with_reducible apply lm_iW); decide))
      refine lm_cV c1 ?_
      repeat (first
    | ((with_reducible apply lm_sI); exact rfl)
    | ((with_reducible apply lm_sR); exact rfl)
    | ((with_reducible apply lm_sS); exact rfl; exact rfl)
    | ((with_reducible apply lm_sL); exact rfl)
    | ((with_reducible apply lm_sP); exact rfl; exact rfl)
    | ((with_reducible apply lm_sPL); exact rfl; exact rfl)
    | ((with_reducible apply lm_sAA); exact rfl; exact rfl)
    | ((with_reducible apply lm_sA); (first | exact rfl | assumption); omega)
    | ((with_reducible apply lm_sJ); (first | exact rfl | assumption); omega)
    | ((with_reducible apply lm_sB); (first | exact rfl | assumption); omega)
    | ((with_reducible apply lm_wA); (first | exact rfl | assumption); omega)
    | ((with_reducible apply lm_wJ); (first | exact rfl | assumption); omega)
    | ((with_reducible apply lm_wB); (first | exact rfl | assumption); omega)
    | ((with_reducible apply lm_sAl); (first | exact rfl | assumption); omega)
    | ((with_reducible apply lm_iW); decide))
      rw [f1.1 214 (by decide) (by decide), hm]
      refine lm_cV c2 ?_
      repeat (first
    | ((with_reducible apply lm_sI); exact rfl)
    | ((with_reducible apply lm_sR); exact rfl)
    | ((with_reducible apply lm_sS); exact rfl; exact rfl)
    | ((with_reducible apply lm_sL); exact rfl)
    | ((with_reducible apply lm_sP); exact rfl; exact rfl)
    | ((with_reducible apply lm_sPL); exact rfl; exact rfl)
    | ((with_reducible apply lm_sAA); exact rfl; exact rfl)
    | ((with_reducible apply lm_sA); (first | exact rfl | assumption); omega)
    | ((with_reducible apply lm_sJ); (first | exact rfl | assumption); omega)
    | ((with_reducible apply lm_sB); (first | exact rfl | assumption); omega)
    | ((with_reducible apply lm_wA); (first | exact rfl | assumption); omega)
    | ((with_reducible apply lm_wJ); (first | exact rfl | assumption); omega)
    | ((with_reducible apply lm_wB); (first | exact rfl | assumption); omega)
    | ((with_reducible apply lm_sAl); (first | exact rfl | assumption); omega)
    | ((with_reducible apply lm_iW); decide))
      refine lm_cI (lm_u60 (d := d + 4) (by omega) (by omega)) ?_
      repeat (first
    | ((with_reducible apply lm_sI); exact rfl)
    | ((with_reducible apply lm_sR); exact rfl)
    | ((with_reducible apply lm_sS); exact rfl; exact rfl)
    | ((with_reducible apply lm_sL); exact rfl)
    | ((with_reducible apply lm_sP); exact rfl; exact rfl)
    | ((with_reducible apply lm_sPL); exact rfl; exact rfl)
    | ((with_reducible apply lm_sAA); exact rfl; exact rfl)
    | ((with_reducible apply lm_sA); (first | exact rfl | assumption); omega)
    | ((with_reducible apply lm_sJ); (first | exact rfl | assumption); omega)
    | ((with_reducible apply lm_sB); (first | exact rfl | assumption); omega)
    | ((with_reducible apply lm_wA); (first | exact rfl | assumption); omega)
    | ((with_reducible apply lm_wJ); (first | exact rfl | assumption); omega)
    | ((with_reducible apply lm_wB); (first | exact rfl | assumption); omega)
    | ((with_reducible apply lm_sAl); (first | exact rfl | assumption); omega)
    | ((with_reducible apply lm_iW); decide))
      exact lm_cV c3 rfl
    · rw [lm_fl_in (by omega), Nat.sub_zero]
      rfl
  · refine ⟨m, n, ?_, fun _ _ _ _ => rfl, ⟨fun _ _ _ _ => rfl, fun _ _ _ _ _ _ _ => rfl⟩, fun g => absurd g c⟩
    refine lm_cal_of (Y := lm_m111) rfl rfl (lm_e111_0 ?_)
    unfold lm_q111_0
    exact lm_zgeF (a := (kk : Int) - 1) (by omega) (by omega) (by omega) rfl
/-- putSigned: behind the context -/
theorem lm_l113 (hC : lm_cx m n = C) (h2 : k ≤ 12) (hk : kk ≤ 13) (hm : m 214 3 = Int32.ofNat ml) (hml : ml ≤ 65536) (hM : ∀ t, t < ml → lm_b8 (m 209 t) = lm_b8 (Mg t)) (hD : 2 ≤ kk → ∀ t, t < lm_dg (kk - 1) → m 329 t = lm_sgd C kk Mg ml t) (hG : ∀ t, t < lm_sgl kk xl ml → G (L + t) = lm_sgn C kk X xl Mg ml t) (hS : lm_rH m n C k G (L + if kk = 0 then 0 else 2 + xl)) : ∃ m' n', lm_rn sc (d + 4) lm_m113.2.2.2.2.1 (lm_reg lm_m113.2.2.2.2.2) (44, [(0, .ref 203), (1, .int (ln_kd kk))], []) (lm_w m n x) = some (.ok none, lm_w m' n' x) ∧ lm_rH m' n' C k G (L + lm_sgl kk xl ml) ∧ lm_fh m n m' n' := by
  by_cases c1 : kk ≤ 1
  · have el : lm_spl kk xl = if kk = 0 then 0 else 2 + xl := by
      unfold lm_spl
      by_cases c0 : kk = 0
      · rw [if_pos c0, if_pos c0]
      · rw [if_neg c0, if_neg c0, if_pos (by omega)]
    have eg : lm_sgl kk xl ml = lm_spl kk xl + ml := by unfold lm_sgl; rw [if_pos c1]
    rw [← el] at hS
    obtain ⟨m1, n1, d1, s1, f1⟩ := lm_rA (sc := sc) (d := d) (x := x) (k := k) (q := 209) (v := 65536) (a := 0) (l := ml) (L := L + lm_spl kk xl) (G := G) hC h2 (by decide) rfl (by omega) (by decide) (fun t ht => by
      rw [Nat.zero_add, hM t ht, Nat.add_assoc, hG _ (by omega), lm_sgn, if_neg (by omega), Nat.add_sub_cancel_left]) hS
    refine ⟨m1, n1, ?_, by rw [eg, ← Nat.add_assoc]; exact s1, f1⟩
    refine lm_e113_44 ?_
    unfold lm_q113_44
    refine lm_zleT (a := (kk : Int) - 1) (b := 0) (by omega) (by omega) (by omega) ?_
    rw [lm_K3, lm_K0]
    repeat (first
    | ((with_reducible apply lm_sI); exact rfl)
    | ((with_reducible apply lm_sR); exact rfl)
    | ((with_reducible apply lm_sS); exact rfl; exact rfl)
    | ((with_reducible apply lm_sL); exact rfl)
    | ((with_reducible apply lm_sP); exact rfl; exact rfl)
    | ((with_reducible apply lm_sPL); exact rfl; exact rfl)
    | ((with_reducible apply lm_sAA); exact rfl; exact rfl)
    | ((with_reducible apply lm_sA); (first | exact rfl | assumption); omega)
    | ((with_reducible apply lm_sJ); (first | exact rfl | assumption); omega)
    | ((with_reducible apply lm_sB); (first | exact rfl | assumption); omega)
    | ((with_reducible apply lm_wA); (first | exact rfl | assumption); omega)
    | ((with_reducible apply lm_wJ); (first | exact rfl | assumption); omega)
    | ((with_reducible apply lm_wB); (first | exact rfl | assumption); omega)
    | ((with_reducible apply lm_sAl); (first | exact rfl | assumption); omega)
    | ((with_reducible apply lm_iW); decide))
    rw [hm]
    exact lm_cV d1 rfl
  · have hdg := lm_dg_le (kk - 1)
    have el : lm_spl kk xl = 13 + xl + lm_dg (kk - 1) := by unfold lm_spl; rw [if_neg (by omega), if_neg (by omega)]
    have eg : lm_sgl kk xl ml = 13 + xl + lm_dg (kk - 1) := by unfold lm_sgl; rw [if_neg c1, Nat.add_zero, el]
    rw [if_neg (by omega)] at hS
    have hO : ∀ i, i < 10 → G (L + (2 + xl) + i) = ln_ow.getD i 0 := fun i hi => by
      rw [Nat.add_assoc, hG _ (by omega), lm_sgn, if_pos (by omega), lm_sp, if_neg (by omega), if_neg (by omega), if_neg (by omega), if_pos (by omega), Nat.add_sub_cancel_left]
    have hk0 : G (L + (2 + xl) + 10) = lm_b8 (Int32.ofNat (kk - 1)) := by
      rw [Nat.add_assoc, hG _ (by omega), lm_sgn, if_pos (by omega), lm_sp, if_neg (by omega), if_neg (by omega), if_neg (by omega), if_neg (by omega), if_pos (by omega)]
    have hd0 : ∀ t, t < lm_dg (kk - 1) → G (L + (2 + xl) + 11 + t) = lm_b8 (lm_sgd C kk Mg ml t) := fun t ht => by
      rw [show L + (2 + xl) + 11 + t = L + (13 + xl + t) by omega, hG _ (by omega), lm_sgn, if_pos (by omega), lm_sp, if_neg (by omega), if_neg (by omega), if_neg (by omega), if_neg (by omega), if_neg (by omega), Nat.add_sub_cancel_left]
    obtain ⟨m0, n0, d0, s0, f0⟩ := lm_rB (sc := sc) (d := d + 1) (m := m) (n := n) (x := x) (k := k) (w := Int32.ofInt 6) (L := L + (2 + xl) + 0) (G := G) hC h2 (by rw [hO 0 (by decide)]; decide) (by rw [Nat.add_zero]; exact hS)
    have C0 := f0.cx.trans hC
    obtain ⟨m1, n1, d1, s1, f1⟩ := lm_rB (sc := sc) (d := d + 1) (m := m0) (n := n0) (x := x) (k := k) (w := Int32.ofInt 9) (L := L + (2 + xl) + 1) (G := G) C0 h2 (by rw [hO 1 (by decide)]; decide) s0
    have C1 := f1.cx.trans C0
    obtain ⟨m2, n2, d2, s2, f2⟩ := lm_rB (sc := sc) (d := d + 1) (m := m1) (n := n1) (x := x) (k := k) (w := Int32.ofInt 96) (L := L + (2 + xl) + 2) (G := G) C1 h2 (by rw [hO 2 (by decide)]; decide) s1
    have C2 := f2.cx.trans C1
    obtain ⟨m3, n3, d3, s3, f3⟩ := lm_rB (sc := sc) (d := d + 1) (m := m2) (n := n2) (x := x) (k := k) (w := Int32.ofInt 134) (L := L + (2 + xl) + 3) (G := G) C2 h2 (by rw [hO 3 (by decide)]; decide) s2
    have C3 := f3.cx.trans C2
    obtain ⟨m4, n4, d4, s4, f4⟩ := lm_rB (sc := sc) (d := d + 1) (m := m3) (n := n3) (x := x) (k := k) (w := Int32.ofInt 72) (L := L + (2 + xl) + 4) (G := G) C3 h2 (by rw [hO 4 (by decide)]; decide) s3
    have C4 := f4.cx.trans C3
    obtain ⟨m5, n5, d5, s5, f5⟩ := lm_rB (sc := sc) (d := d + 1) (m := m4) (n := n4) (x := x) (k := k) (w := Int32.ofInt 1) (L := L + (2 + xl) + 5) (G := G) C4 h2 (by rw [hO 5 (by decide)]; decide) s4
    have C5 := f5.cx.trans C4
    obtain ⟨m6, n6, d6, s6, f6⟩ := lm_rB (sc := sc) (d := d + 1) (m := m5) (n := n5) (x := x) (k := k) (w := Int32.ofInt 101) (L := L + (2 + xl) + 6) (G := G) C5 h2 (by rw [hO 6 (by decide)]; decide) s5
    have C6 := f6.cx.trans C5
    obtain ⟨m7, n7, d7, s7, f7⟩ := lm_rB (sc := sc) (d := d + 1) (m := m6) (n := n6) (x := x) (k := k) (w := Int32.ofInt 3) (L := L + (2 + xl) + 7) (G := G) C6 h2 (by rw [hO 7 (by decide)]; decide) s6
    have C7 := f7.cx.trans C6
    obtain ⟨m8, n8, d8, s8, f8⟩ := lm_rB (sc := sc) (d := d + 1) (m := m7) (n := n7) (x := x) (k := k) (w := Int32.ofInt 4) (L := L + (2 + xl) + 8) (G := G) C7 h2 (by rw [hO 8 (by decide)]; decide) s7
    have C8 := f8.cx.trans C7
    obtain ⟨m9, n9, d9, s9, f9⟩ := lm_rB (sc := sc) (d := d + 1) (m := m8) (n := n8) (x := x) (k := k) (w := Int32.ofInt 2) (L := L + (2 + xl) + 9) (G := G) C8 h2 (by rw [hO 9 (by decide)]; decide) s8
    have C9 := f9.cx.trans C8
    obtain ⟨mA, nA, dA, sA, fA⟩ := lm_rB (sc := sc) (d := d + 1) (m := m9) (n := n9) (x := x) (k := k) (w := Int32.ofNat (kk - 1)) (L := L + (2 + xl) + 10) (G := G) C9 h2 hk0.symm s9
    have CA := fA.cx.trans C9
    have F := f0.tr (f1.tr (f2.tr (f3.tr (f4.tr (f5.tr (f6.tr (f7.tr (f8.tr (f9.tr fA)))))))))
    obtain ⟨mB, nB, dB, sB, fB⟩ := lm_rA (sc := sc) (d := d) (m := mA) (n := nA) (x := x) (k := k) (q := 329) (v := 64) (a := 0) (l := lm_dg (kk - 1)) (L := L + (2 + xl) + 11) (G := G) CA h2 (by decide) rfl (by omega) (by decide) (fun t ht => by
      rw [Nat.zero_add, F.1 329 (by decide) (by decide), hD (by omega) t ht, hd0 t ht]) sA
    refine ⟨mB, nB, ?_, ?_, F.tr fB⟩
    · refine lm_e113_44 ?_
      unfold lm_q113_44
      refine lm_zleF (a := (kk : Int) - 1) (b := 0) (by omega) (by omega) (by omega) ?_
      rw [ln_kd_n (by omega), lm_K0]
      repeat (first
    | ((with_reducible apply lm_sI); exact rfl)
    | ((with_reducible apply lm_sR); exact rfl)
    | ((with_reducible apply lm_sS); exact rfl; exact rfl)
    | ((with_reducible apply lm_sL); exact rfl)
    | ((with_reducible apply lm_sP); exact rfl; exact rfl)
    | ((with_reducible apply lm_sPL); exact rfl; exact rfl)
    | ((with_reducible apply lm_sAA); exact rfl; exact rfl)
    | ((with_reducible apply lm_sA); (first | exact rfl | assumption); omega)
    | ((with_reducible apply lm_sJ); (first | exact rfl | assumption); omega)
    | ((with_reducible apply lm_sB); (first | exact rfl | assumption); omega)
    | ((with_reducible apply lm_wA); (first | exact rfl | assumption); omega)
    | ((with_reducible apply lm_wJ); (first | exact rfl | assumption); omega)
    | ((with_reducible apply lm_wB); (first | exact rfl | assumption); omega)
    | ((with_reducible apply lm_sAl); (first | exact rfl | assumption); omega)
    | ((with_reducible apply lm_iW); decide))
      refine lm_cV d0 ?_
      repeat (first
    | ((with_reducible apply lm_sI); exact rfl)
    | ((with_reducible apply lm_sR); exact rfl)
    | ((with_reducible apply lm_sS); exact rfl; exact rfl)
    | ((with_reducible apply lm_sL); exact rfl)
    | ((with_reducible apply lm_sP); exact rfl; exact rfl)
    | ((with_reducible apply lm_sPL); exact rfl; exact rfl)
    | ((with_reducible apply lm_sAA); exact rfl; exact rfl)
    | ((with_reducible apply lm_sA); (first | exact rfl | assumption); omega)
    | ((with_reducible apply lm_sJ); (first | exact rfl | assumption); omega)
    | ((with_reducible apply lm_sB); (first | exact rfl | assumption); omega)
    | ((with_reducible apply lm_wA); (first | exact rfl | assumption); omega)
    | ((with_reducible apply lm_wJ); (first | exact rfl | assumption); omega)
    | ((with_reducible apply lm_wB); (first | exact rfl | assumption); omega)
    | ((with_reducible apply lm_sAl); (first | exact rfl | assumption); omega)
    | ((with_reducible apply lm_iW); decide))
      refine lm_cV d1 ?_
      repeat (first
    | ((with_reducible apply lm_sI); exact rfl)
    | ((with_reducible apply lm_sR); exact rfl)
    | ((with_reducible apply lm_sS); exact rfl; exact rfl)
    | ((with_reducible apply lm_sL); exact rfl)
    | ((with_reducible apply lm_sP); exact rfl; exact rfl)
    | ((with_reducible apply lm_sPL); exact rfl; exact rfl)
    | ((with_reducible apply lm_sAA); exact rfl; exact rfl)
    | ((with_reducible apply lm_sA); (first | exact rfl | assumption); omega)
    | ((with_reducible apply lm_sJ); (first | exact rfl | assumption); omega)
    | ((with_reducible apply lm_sB); (first | exact rfl | assumption); omega)
    | ((with_reducible apply lm_wA); (first | exact rfl | assumption); omega)
    | ((with_reducible apply lm_wJ); (first | exact rfl | assumption); omega)
    | ((with_reducible apply lm_wB); (first | exact rfl | assumption); omega)
    | ((with_reducible apply lm_sAl); (first | exact rfl | assumption); omega)
    | ((with_reducible apply lm_iW); decide))
      refine lm_cV d2 ?_
      repeat (first
    | ((with_reducible apply lm_sI); exact rfl)
    | ((with_reducible apply lm_sR); exact rfl)
    | ((with_reducible apply lm_sS); exact rfl; exact rfl)
    | ((with_reducible apply lm_sL); exact rfl)
    | ((with_reducible apply lm_sP); exact rfl; exact rfl)
    | ((with_reducible apply lm_sPL); exact rfl; exact rfl)
    | ((with_reducible apply lm_sAA); exact rfl; exact rfl)
    | ((with_reducible apply lm_sA); (first | exact rfl | assumption); omega)
    | ((with_reducible apply lm_sJ); (first | exact rfl | assumption); omega)
    | ((with_reducible apply lm_sB); (first | exact rfl | assumption); omega)
    | ((with_reducible apply lm_wA); (first | exact rfl | assumption); omega)
    | ((with_reducible apply lm_wJ); (first | exact rfl | assumption); omega)
    | ((with_reducible apply lm_wB); (first | exact rfl | assumption); omega)
    | ((with_reducible apply lm_sAl); (first | exact rfl | assumption); omega)
    | ((with_reducible apply lm_iW); decide))
      refine lm_cV d3 ?_
      repeat (first
    | ((with_reducible apply lm_sI); exact rfl)
    | ((with_reducible apply lm_sR); exact rfl)
    | ((with_reducible apply lm_sS); exact rfl; exact rfl)
    | ((with_reducible apply lm_sL); exact rfl)
    | ((with_reducible apply lm_sP); exact rfl; exact rfl)
    | ((with_reducible apply lm_sPL); exact rfl; exact rfl)
    | ((with_reducible apply lm_sAA); exact rfl; exact rfl)
    | ((with_reducible apply lm_sA); (first | exact rfl | assumption); omega)
    | ((with_reducible apply lm_sJ); (first | exact rfl | assumption); omega)
    | ((with_reducible apply lm_sB); (first | exact rfl | assumption); omega)
    | ((with_reducible apply lm_wA); (first | exact rfl | assumption); omega)
    | ((with_reducible apply lm_wJ); (first | exact rfl | assumption); omega)
    | ((with_reducible apply lm_wB); (first | exact rfl | assumption); omega)
    | ((with_reducible apply lm_sAl); (first | exact rfl | assumption); omega)
    | ((with_reducible apply lm_iW); decide))
      refine lm_cV d4 ?_
      repeat (first
    | ((with_reducible apply lm_sI); exact rfl)
    | ((with_reducible apply lm_sR); exact rfl)
    | ((with_reducible apply lm_sS); exact rfl; exact rfl)
    | ((with_reducible apply lm_sL); exact rfl)
    | ((with_reducible apply lm_sP); exact rfl; exact rfl)
    | ((with_reducible apply lm_sPL); exact rfl; exact rfl)
    | ((with_reducible apply lm_sAA); exact rfl; exact rfl)
    | ((with_reducible apply lm_sA); (first | exact rfl | assumption); omega)
    | ((with_reducible apply lm_sJ); (first | exact rfl | assumption); omega)
    | ((with_reducible apply lm_sB); (first | exact rfl | assumption); omega)
    | ((with_reducible apply lm_wA); (first | exact rfl | assumption); omega)
    | ((with_reducible apply lm_wJ); (first | exact rfl | assumption); omega)
    | ((with_reducible apply lm_wB); (first | exact rfl | assumption); omega)
    | ((with_reducible apply lm_sAl); (first | exact rfl | assumption); omega)
    | ((with_reducible apply lm_iW); decide))
      refine lm_cV d5 ?_
      repeat (first
    | ((with_reducible apply lm_sI); exact rfl)
    | ((with_reducible apply lm_sR); exact rfl)
    | ((with_reducible apply lm_sS); exact rfl; exact rfl)
    | ((with_reducible apply lm_sL); exact rfl)
    | ((with_reducible apply lm_sP); exact rfl; exact rfl)
    | ((with_reducible apply lm_sPL); exact rfl; exact rfl)
    | ((with_reducible apply lm_sAA); exact rfl; exact rfl)
    | ((with_reducible apply lm_sA); (first | exact rfl | assumption); omega)
    | ((with_reducible apply lm_sJ); (first | exact rfl | assumption); omega)
    | ((with_reducible apply lm_sB); (first | exact rfl | assumption); omega)
    | ((with_reducible apply lm_wA); (first | exact rfl | assumption); omega)
    | ((with_reducible apply lm_wJ); (first | exact rfl | assumption); omega)
    | ((with_reducible apply lm_wB); (first | exact rfl | assumption); omega)
    | ((with_reducible apply lm_sAl); (first | exact rfl | assumption); omega)
    | ((with_reducible apply lm_iW); decide))
      refine lm_cV d6 ?_
      repeat (first
    | ((with_reducible apply lm_sI); exact rfl)
    | ((with_reducible apply lm_sR); exact rfl)
    | ((with_reducible apply lm_sS); exact rfl; exact rfl)
    | ((with_reducible apply lm_sL); exact rfl)
    | ((with_reducible apply lm_sP); exact rfl; exact rfl)
    | ((with_reducible apply lm_sPL); exact rfl; exact rfl)
    | ((with_reducible apply lm_sAA); exact rfl; exact rfl)
    | ((with_reducible apply lm_sA); (first | exact rfl | assumption); omega)
    | ((with_reducible apply lm_sJ); (first | exact rfl | assumption); omega)
    | ((with_reducible apply lm_sB); (first | exact rfl | assumption); omega)
    | ((with_reducible apply lm_wA); (first | exact rfl | assumption); omega)
    | ((with_reducible apply lm_wJ); (first | exact rfl | assumption); omega)
    | ((with_reducible apply lm_wB); (first | exact rfl | assumption); omega)
    | ((with_reducible apply lm_sAl); (first | exact rfl | assumption); omega)
    | ((with_reducible apply lm_iW); decide))
      refine lm_cV d7 ?_
      repeat (first
    | ((with_reducible apply lm_sI); exact rfl)
    | ((with_reducible apply lm_sR); exact rfl)
    | ((with_reducible apply lm_sS); exact rfl; exact rfl)
    | ((with_reducible apply lm_sL); exact rfl)
    | ((with_reducible apply lm_sP); exact rfl; exact rfl)
    | ((with_reducible apply lm_sPL); exact rfl; exact rfl)
    | ((with_reducible apply lm_sAA); exact rfl; exact rfl)
    | ((with_reducible apply lm_sA); (first | exact rfl | assumption); omega)
    | ((with_reducible apply lm_sJ); (first | exact rfl | assumption); omega)
    | ((with_reducible apply lm_sB); (first | exact rfl | assumption); omega)
    | ((with_reducible apply lm_wA); (first | exact rfl | assumption); omega)
    | ((with_reducible apply lm_wJ); (first | exact rfl | assumption); omega)
    | ((with_reducible apply lm_wB); (first | exact rfl | assumption); omega)
    | ((with_reducible apply lm_sAl); (first | exact rfl | assumption); omega)
    | ((with_reducible apply lm_iW); decide))
      refine lm_cV d8 ?_
      repeat (first
    | ((with_reducible apply lm_sI); exact rfl)
    | ((with_reducible apply lm_sR); exact rfl)
    | ((with_reducible apply lm_sS); exact rfl; exact rfl)
    | ((with_reducible apply lm_sL); exact rfl)
    | ((with_reducible apply lm_sP); exact rfl; exact rfl)
    | ((with_reducible apply lm_sPL); exact rfl; exact rfl)
    | ((with_reducible apply lm_sAA); exact rfl; exact rfl)
    | ((with_reducible apply lm_sA); (first | exact rfl | assumption); omega)
    | ((with_reducible apply lm_sJ); (first | exact rfl | assumption); omega)
    | ((with_reducible apply lm_sB); (first | exact rfl | assumption); omega)
    | ((with_reducible apply lm_wA); (first | exact rfl | assumption); omega)
    | ((with_reducible apply lm_wJ); (first | exact rfl | assumption); omega)
    | ((with_reducible apply lm_wB); (first | exact rfl | assumption); omega)
    | ((with_reducible apply lm_sAl); (first | exact rfl | assumption); omega)
    | ((with_reducible apply lm_iW); decide))
      refine lm_cV d9 ?_
      repeat (first
    | ((with_reducible apply lm_sI); exact rfl)
    | ((with_reducible apply lm_sR); exact rfl)
    | ((with_reducible apply lm_sS); exact rfl; exact rfl)
    | ((with_reducible apply lm_sL); exact rfl)
    | ((with_reducible apply lm_sP); exact rfl; exact rfl)
    | ((with_reducible apply lm_sPL); exact rfl; exact rfl)
    | ((with_reducible apply lm_sAA); exact rfl; exact rfl)
    | ((with_reducible apply lm_sA); (first | exact rfl | assumption); omega)
    | ((with_reducible apply lm_sJ); (first | exact rfl | assumption); omega)
    | ((with_reducible apply lm_sB); (first | exact rfl | assumption); omega)
    | ((with_reducible apply lm_wA); (first | exact rfl | assumption); omega)
    | ((with_reducible apply lm_wJ); (first | exact rfl | assumption); omega)
    | ((with_reducible apply lm_wB); (first | exact rfl | assumption); omega)
    | ((with_reducible apply lm_sAl); (first | exact rfl | assumption); omega)
    | ((with_reducible apply lm_iW); decide))
      refine lm_cV dA ?_
      repeat (first
    | ((with_reducible apply lm_sI); exact rfl)
    | ((with_reducible apply lm_sR); exact rfl)
    | ((with_reducible apply lm_sS); exact rfl; exact rfl)
    | ((with_reducible apply lm_sL); exact rfl)
    | ((with_reducible apply lm_sP); exact rfl; exact rfl)
    | ((with_reducible apply lm_sPL); exact rfl; exact rfl)
    | ((with_reducible apply lm_sAA); exact rfl; exact rfl)
    | ((with_reducible apply lm_sA); (first | exact rfl | assumption); omega)
    | ((with_reducible apply lm_sJ); (first | exact rfl | assumption); omega)
    | ((with_reducible apply lm_sB); (first | exact rfl | assumption); omega)
    | ((with_reducible apply lm_wA); (first | exact rfl | assumption); omega)
    | ((with_reducible apply lm_wJ); (first | exact rfl | assumption); omega)
    | ((with_reducible apply lm_wB); (first | exact rfl | assumption); omega)
    | ((with_reducible apply lm_sAl); (first | exact rfl | assumption); omega)
    | ((with_reducible apply lm_iW); decide))
      refine lm_cI (lm_u60 (d := d + 3) (by omega) (by omega)) ?_
      repeat (first
    | ((with_reducible apply lm_sI); exact rfl)
    | ((with_reducible apply lm_sR); exact rfl)
    | ((with_reducible apply lm_sS); exact rfl; exact rfl)
    | ((with_reducible apply lm_sL); exact rfl)
    | ((with_reducible apply lm_sP); exact rfl; exact rfl)
    | ((with_reducible apply lm_sPL); exact rfl; exact rfl)
    | ((with_reducible apply lm_sAA); exact rfl; exact rfl)
    | ((with_reducible apply lm_sA); (first | exact rfl | assumption); omega)
    | ((with_reducible apply lm_sJ); (first | exact rfl | assumption); omega)
    | ((with_reducible apply lm_sB); (first | exact rfl | assumption); omega)
    | ((with_reducible apply lm_wA); (first | exact rfl | assumption); omega)
    | ((with_reducible apply lm_wJ); (first | exact rfl | assumption); omega)
    | ((with_reducible apply lm_wB); (first | exact rfl | assumption); omega)
    | ((with_reducible apply lm_sAl); (first | exact rfl | assumption); omega)
    | ((with_reducible apply lm_iW); decide))
      exact lm_cV dB rfl
    · rw [eg, show L + (13 + xl + lm_dg (kk - 1)) = L + (2 + xl) + 11 + lm_dg (kk - 1) by omega]
      exact sB
/-- putSigned -/
theorem lm_u113 (hC : lm_cx m n = C) (h2 : k ≤ 12) (hk : kk ≤ 13) (hxk : kk = 0 ∨ xl ≤ 255) (hx : m 214 4 = Int32.ofNat xl) (hm : m 214 3 = Int32.ofNat ml) (hml : ml ≤ 65536) (hX : ∀ t, t < xl → lm_b8 (m 210 t) = lm_b8 (X t)) (hM : ∀ t, t < ml → lm_b8 (m 209 t) = lm_b8 (Mg t)) (hD : 2 ≤ kk → ∀ t, t < lm_dg (kk - 1) → m 329 t = lm_sgd C kk Mg ml t) (hG : ∀ t, t < lm_sgl kk xl ml → G (L + t) = lm_sgn C kk X xl Mg ml t) (hS : lm_rH m n C k G L) : ∃ m' n', lm_cal sc (d + 5) 113 [.ref 203, .int (ln_kd kk)] (lm_w m n x) = some (.ok none, lm_w m' n' x) ∧ lm_rH m' n' C k G (L + lm_sgl kk xl ml) ∧ lm_fh m n m' n' := by
  by_cases c0 : kk = 0
  · obtain ⟨m1, n1, d1, s1, f1⟩ := lm_l113 (sc := sc) (d := d) (m := m) (n := n) (x := x) (X := X) (xl := xl) (Mg := Mg) (G := G) (L := L) (kk := kk) hC h2 hk hm hml hM hD hG (by rw [if_pos c0]; exact hS)
    refine ⟨m1, n1, ?_, s1, f1⟩
    refine lm_cal_of (Y := lm_m113) rfl rfl (lm_e113_0 ?_)
    unfold lm_q113_0
    exact lm_zltT (a := (kk : Int) - 1) (b := 0) (by omega) (by omega) (by omega) d1
  · have hx5 : xl ≤ 255 := by omega
    have hsp : 2 + xl ≤ lm_spl kk xl := by
      unfold lm_spl
      rw [if_neg c0]
      split <;> omega
    have hsg : lm_spl kk xl ≤ lm_sgl kk xl ml := by unfold lm_sgl; omega
    have g0 : G L = if kk = 1 then 0 else 1 := by
      have := hG 0 (by omega)
      rw [Nat.add_zero] at this
      rw [this, lm_sgn, if_pos (by omega), lm_sp, if_pos rfl]
    have g1 : G (L + 1) = lm_b8 (Int32.ofNat xl) := by rw [hG 1 (by omega), lm_sgn, if_pos (by omega), lm_sp, if_neg (by decide), if_pos rfl]
    have g2 : ∀ t, t < xl → G (L + 1 + 1 + t) = lm_b8 (X t) := fun t ht => by
      rw [show L + 1 + 1 + t = L + (2 + t) by omega, hG _ (by omega), lm_sgn, if_pos (by omega), lm_sp, if_neg (by omega), if_neg (by omega), if_pos (by omega), Nat.add_sub_cancel_left]
    generalize eb : (if kk = 1 then (0 : Int32) else 1) = b0 at g0
    obtain ⟨m1, n1, d1, s1, f1⟩ := lm_rB (sc := sc) (d := d + 1) (m := m) (n := n) (x := x) (k := k) (w := b0) (L := L) (G := G) hC h2 (by rw [g0, ← eb]; split <;> decide) hS
    have C1 := f1.cx.trans hC
    obtain ⟨m2, n2, d2, s2, f2⟩ := lm_rB (sc := sc) (d := d + 1) (m := m1) (n := n1) (x := x) (k := k) (w := Int32.ofNat xl) (L := L + 1) (G := G) C1 h2 g1.symm s1
    have C2 := f2.cx.trans C1
    have F2 := f1.tr f2
    obtain ⟨m3, n3, d3, s3, f3⟩ := lm_rA (sc := sc) (d := d) (m := m2) (n := n2) (x := x) (k := k) (q := 210) (v := 65536) (a := 0) (l := xl) (L := L + 1 + 1) (G := G) C2 h2 (by decide) rfl (by omega) (by decide) (fun t ht => by
      rw [Nat.zero_add, F2.1 210 (by decide) (by decide), hX t ht, g2 t ht]) s2
    have C3 := f3.cx.trans C2
    have F3 := F2.tr f3
    obtain ⟨m4, n4, d4, s4, f4⟩ := lm_l113 (sc := sc) (d := d) (m := m3) (n := n3) (x := x) (X := X) (xl := xl) (Mg := Mg) (G := G) (L := L) (kk := kk) (ml := ml) C3 h2 hk (by rw [F3.1 214 (by decide) (by decide)]; exact hm) hml (fun t ht => by rw [F3.1 209 (by decide) (by decide)]; exact hM t ht) (fun g t ht => by rw [F3.1 329 (by decide) (by decide)]; exact hD g t ht) hG (by rw [if_neg c0, show L + (2 + xl) = L + 1 + 1 + xl by omega]; exact s3)
    refine ⟨m4, n4, ?_, s4, F3.tr f4⟩
    have fin : lm_rn sc (d + 4) lm_m113.2.2.2.2.1 (lm_reg lm_m113.2.2.2.2.2) (14, [(0, .ref 203), (1, .int (ln_kd kk))], [.int b0, .ref 203]) (lm_w m n x) = some (.ok none, lm_w m4 n4 x) := by
      refine lm_e113_14 ?_
      unfold lm_q113_14
      rw [lm_K4, lm_K0]
      repeat (first
    | ((with_reducible apply lm_sI); exact rfl)
    | ((with_reducible apply lm_sR); exact rfl)
    | ((with_reducible apply lm_sS); exact rfl; exact rfl)
    | ((with_reducible apply lm_sL); exact rfl)
    | ((with_reducible apply lm_sP); exact rfl; exact rfl)
    | ((with_reducible apply lm_sPL); exact rfl; exact rfl)
    | ((with_reducible apply lm_sAA); exact rfl; exact rfl)
    | ((with_reducible apply lm_sA); (first | exact rfl | assumption); omega)
    | ((with_reducible apply lm_sJ); (first | exact rfl | assumption); omega)
    | ((with_reducible apply lm_sB); (first | exact rfl | assumption); omega)
    | ((with_reducible apply lm_wA); (first | exact rfl | assumption); omega)
    | ((with_reducible apply lm_wJ); (first | exact rfl | assumption); omega)
    | ((with_reducible apply lm_wB); (first | exact rfl | assumption); omega)
    | ((with_reducible apply lm_sAl); (first | exact rfl | assumption); omega)
    | ((with_reducible apply lm_iW); decide))
      refine lm_cV d1 ?_
      repeat (first
    | ((with_reducible apply lm_sI); exact rfl)
    | ((with_reducible apply lm_sR); exact rfl)
    | ((with_reducible apply lm_sS); exact rfl; exact rfl)
    | ((with_reducible apply lm_sL); exact rfl)
    | ((with_reducible apply lm_sP); exact rfl; exact rfl)
    | ((with_reducible apply lm_sPL); exact rfl; exact rfl)
    | ((with_reducible apply lm_sAA); exact rfl; exact rfl)
    | ((with_reducible apply lm_sA); (first | exact rfl | assumption); omega)
    | ((with_reducible apply lm_sJ); (first | exact rfl | assumption); omega)
    | ((with_reducible apply lm_sB); (first | exact rfl | assumption); omega)
    | ((with_reducible apply lm_wA); (first | exact rfl | assumption); omega)
    | ((with_reducible apply lm_wJ); (first | exact rfl | assumption); omega)
    | ((with_reducible apply lm_wB); (first | exact rfl | assumption); omega)
    | ((with_reducible apply lm_sAl); (first | exact rfl | assumption); omega)
    | ((with_reducible apply lm_iW); decide))
      rw [f1.1 214 (by decide) (by decide), hx]
      refine lm_cV d2 ?_
      repeat (first
    | ((with_reducible apply lm_sI); exact rfl)
    | ((with_reducible apply lm_sR); exact rfl)
    | ((with_reducible apply lm_sS); exact rfl; exact rfl)
    | ((with_reducible apply lm_sL); exact rfl)
    | ((with_reducible apply lm_sP); exact rfl; exact rfl)
    | ((with_reducible apply lm_sPL); exact rfl; exact rfl)
    | ((with_reducible apply lm_sAA); exact rfl; exact rfl)
    | ((with_reducible apply lm_sA); (first | exact rfl | assumption); omega)
    | ((with_reducible apply lm_sJ); (first | exact rfl | assumption); omega)
    | ((with_reducible apply lm_sB); (first | exact rfl | assumption); omega)
    | ((with_reducible apply lm_wA); (first | exact rfl | assumption); omega)
    | ((with_reducible apply lm_wJ); (first | exact rfl | assumption); omega)
    | ((with_reducible apply lm_wB); (first | exact rfl | assumption); omega)
    | ((with_reducible apply lm_sAl); (first | exact rfl | assumption); omega)
    | ((with_reducible apply lm_iW); decide))
      rw [F2.1 214 (by decide) (by decide), hx]
      refine lm_cV d3 ?_
      exact d4
    refine lm_cal_of (Y := lm_m113) rfl rfl (lm_e113_0 ?_)
    unfold lm_q113_0
    refine lm_zltF (a := (kk : Int) - 1) (b := 0) (by omega) (by omega) (by omega) ?_
    by_cases c1 : kk = 1
    · refine lm_zneF (a := (kk : Int) - 1) (b := 0) (by omega) ?_
      rw [if_pos c1] at eb
      rw [show Int32.ofInt 0 = b0 from eb]
      exact fin
    · refine lm_zneT (a := (kk : Int) - 1) (b := 0) (by omega) (by omega) (by omega) ?_
      rw [if_neg c1] at eb
      rw [show Int32.ofInt 1 = b0 from eb]
      exact fin
/-- digestMessage -/
theorem lm_u97 {q v a a' : Nat} {T : Nat → Int32} (hC : lm_cx m n = C) (hk : kk ≤ 13) (hxk : kk = 0 ∨ xl ≤ 255) (hx : m 214 4 = Int32.ofNat xl) (hm : m 214 3 = Int32.ofNat ml) (hml : ml ≤ 65536) (hX : ∀ t, t < xl → lm_b8 (m 210 t) = lm_b8 (X t)) (hM : ∀ t, t < ml → lm_b8 (m 209 t) = lm_b8 (Mg t)) (hq : lm_ar q = some (1, v)) (hq3 : q ≠ 203 ∧ q ≠ 227 ∧ q ≠ 329) (hav : a + 64 ≤ v) (hv : v ≤ 70000) (hT : ∀ t, t < 64 → lm_b8 (m q (a + t)) = lm_b8 (T (a' + t))) : ∃ m' n', lm_cal sc (d + 7) 97 [.ref 203, .ref q, .int (Int32.ofNat a), .int (ln_kd kk)] (lm_w m n x) = some (.ok none, lm_w m' n' x) ∧ (∀ r, r ≠ 203 → r ≠ 227 → r ≠ 329 → r ≠ 330 → m' r = m r) ∧ lm_fG m n m' n' ∧ ∀ i, i < 64 → m' 330 i = lm_Hm C 12 (lm_mG T a' (lm_sgn C kk X xl Mg ml)) (64 + lm_sgl kk xl ml) i := by
  obtain ⟨m1, n1, d1, f1, g1, v1⟩ := lm_u111 (sc := sc) (d := d) (m := m) (n := n) (x := x) (kk := kk) (ml := ml) (Mg := Mg) hC hk hm hml hM
  have C1 : lm_cx m1 n1 = C := (g1.B.cx (f1 221 (by decide) (by decide) (by decide))).trans hC
  generalize eG : lm_mG T a' (lm_sgn C kk X xl Mg ml) = G
  obtain ⟨m2, n2, d2, s2, f2⟩ := lm_rS (sc := sc) (d := d + 4) (m := m1) (n := n1) (x := x) (k := 12) (G := G) C1 (by decide) (by decide)
  have C2 := f2.cx.trans C1
  obtain ⟨m3, n3, d3, s3, f3⟩ := lm_rA (sc := sc) (d := d + 2) (m := m2) (n := n2) (x := x) (k := 12) (q := q) (v := v) (a := a) (l := 64) (L := 0) (G := G) C2 (by decide) ⟨hq3.1, hq3.2.1⟩ hq hav hv (fun t ht => by
    rw [f2.1 q hq3.1 hq3.2.1, f1 q hq3.1 hq3.2.1 hq3.2.2, hT t ht, Nat.zero_add, ← eG, lm_mG, if_pos ht]) s2
  have C3 := f3.cx.trans C2
  rw [Nat.zero_add] at s3
  have F3 := f2.tr f3
  have e3 : ∀ r, r ≠ 203 → r ≠ 227 → r ≠ 329 → m3 r = m r := fun r q1 q2 q3 => by rw [F3.1 r q1 q2, f1 r q1 q2 q3]
  obtain ⟨m4, n4, d4, s4, f4⟩ := lm_u113 (sc := sc) (d := d + 1) (m := m3) (n := n3) (x := x) (k := 12) (kk := kk) (xl := xl) (ml := ml) (X := X) (Mg := Mg) (G := G) (L := 64) C3 (by decide) hk hxk (by rw [e3 214 (by decide) (by decide) (by decide)]; exact hx) (by rw [e3 214 (by decide) (by decide) (by decide)]; exact hm) hml (fun t ht => by rw [e3 210 (by decide) (by decide) (by decide)]; exact hX t ht) (fun t ht => by rw [e3 209 (by decide) (by decide) (by decide)]; exact hM t ht) (fun g t ht => by rw [F3.1 329 (by decide) (by decide)]; exact v1 g t ht) (fun t ht => by rw [← eG, lm_mG, if_neg (by omega), Nat.add_sub_cancel_left]) s3
  have C4 := f4.cx.trans C3
  obtain ⟨m5, n5, d5, f5⟩ := lm_rG (sc := sc) (d := d + 1) (m := m4) (n := n4) (x := x) (k := 12) (q := 330) (v := 64) (a := 0) (l := 64) C4 (by decide) (by decide) rfl (by decide) (by decide) (fun h => absurd h (by decide)) s4
  have F5 := F3.tr (f4.tr f5)
  refine ⟨lm_fil m5 330 0 (0 + 64) (fun i => lm_Hm C 12 G (64 + lm_sgl kk xl ml) (i - 0)), n5, ?_, fun r q1 q2 q3 q4 => by rw [lm_fl_row q4, F5.1 r q1 q2, f1 r q1 q2 q3], g1.tr (F5.G.tr ⟨fun j _ _ _ => by rw [lm_fl_row (by decide)], fun _ _ _ _ _ _ _ => rfl⟩), fun i hi => by rw [lm_fl_in (by omega), Nat.sub_zero]⟩
  refine lm_cal_of (Y := lm_m97) rfl rfl (lm_e97_0 ?_)
  unfold lm_q97_0
  rw [lm_K12, lm_K64, lm_K0]
  repeat (first
    | ((with_reducible apply lm_sI); exact rfl)
    | ((with_reducible apply lm_sR); exact rfl)
    | ((with_reducible apply lm_sS); exact rfl; exact rfl)
    | ((with_reducible apply lm_sL); exact rfl)
    | ((with_reducible apply lm_sP); exact rfl; exact rfl)
    | ((with_reducible apply lm_sPL); exact rfl; exact rfl)
    | ((with_reducible apply lm_sAA); exact rfl; exact rfl)
    | ((with_reducible apply lm_sA); (first | exact rfl | assumption); omega)
    | ((with_reducible apply lm_sJ); (first | exact rfl | assumption); omega)
    | ((with_reducible apply lm_sB); (first | exact rfl | assumption); omega)
    | ((with_reducible apply lm_wA); (first | exact rfl | assumption); omega)
    | ((with_reducible apply lm_wJ); (first | exact rfl | assumption); omega)
    | ((with_reducible apply lm_wB); (first | exact rfl | assumption); omega)
    | ((with_reducible apply lm_sAl); (first | exact rfl | assumption); omega)
    | ((with_reducible apply lm_iW); decide))
  refine lm_cV d1 ?_
  repeat (first
    | ((with_reducible apply lm_sI); exact rfl)
    | ((with_reducible apply lm_sR); exact rfl)
    | ((with_reducible apply lm_sS); exact rfl; exact rfl)
    | ((with_reducible apply lm_sL); exact rfl)
    | ((with_reducible apply lm_sP); exact rfl; exact rfl)
    | ((with_reducible apply lm_sPL); exact rfl; exact rfl)
    | ((with_reducible apply lm_sAA); exact rfl; exact rfl)
    | ((with_reducible apply lm_sA); (first | exact rfl | assumption); omega)
    | ((with_reducible apply lm_sJ); (first | exact rfl | assumption); omega)
    | ((with_reducible apply lm_sB); (first | exact rfl | assumption); omega)
    | ((with_reducible apply lm_wA); (first | exact rfl | assumption); omega)
    | ((with_reducible apply lm_wJ); (first | exact rfl | assumption); omega)
    | ((with_reducible apply lm_wB); (first | exact rfl | assumption); omega)
    | ((with_reducible apply lm_sAl); (first | exact rfl | assumption); omega)
    | ((with_reducible apply lm_iW); decide))
  refine lm_cV d2 ?_
  repeat (first
    | ((with_reducible apply lm_sI); exact rfl)
    | ((with_reducible apply lm_sR); exact rfl)
    | ((with_reducible apply lm_sS); exact rfl; exact rfl)
    | ((with_reducible apply lm_sL); exact rfl)
    | ((with_reducible apply lm_sP); exact rfl; exact rfl)
    | ((with_reducible apply lm_sPL); exact rfl; exact rfl)
    | ((with_reducible apply lm_sAA); exact rfl; exact rfl)
    | ((with_reducible apply lm_sA); (first | exact rfl | assumption); omega)
    | ((with_reducible apply lm_sJ); (first | exact rfl | assumption); omega)
    | ((with_reducible apply lm_sB); (first | exact rfl | assumption); omega)
    | ((with_reducible apply lm_wA); (first | exact rfl | assumption); omega)
    | ((with_reducible apply lm_wJ); (first | exact rfl | assumption); omega)
    | ((with_reducible apply lm_wB); (first | exact rfl | assumption); omega)
    | ((with_reducible apply lm_sAl); (first | exact rfl | assumption); omega)
    | ((with_reducible apply lm_iW); decide))
  refine lm_cV d3 ?_
  repeat (first
    | ((with_reducible apply lm_sI); exact rfl)
    | ((with_reducible apply lm_sR); exact rfl)
    | ((with_reducible apply lm_sS); exact rfl; exact rfl)
    | ((with_reducible apply lm_sL); exact rfl)
    | ((with_reducible apply lm_sP); exact rfl; exact rfl)
    | ((with_reducible apply lm_sPL); exact rfl; exact rfl)
    | ((with_reducible apply lm_sAA); exact rfl; exact rfl)
    | ((with_reducible apply lm_sA); (first | exact rfl | assumption); omega)
    | ((with_reducible apply lm_sJ); (first | exact rfl | assumption); omega)
    | ((with_reducible apply lm_sB); (first | exact rfl | assumption); omega)
    | ((with_reducible apply lm_wA); (first | exact rfl | assumption); omega)
    | ((with_reducible apply lm_wJ); (first | exact rfl | assumption); omega)
    | ((with_reducible apply lm_wB); (first | exact rfl | assumption); omega)
    | ((with_reducible apply lm_sAl); (first | exact rfl | assumption); omega)
    | ((with_reducible apply lm_iW); decide))
  refine lm_cV d4 ?_
  repeat (first
    | ((with_reducible apply lm_sI); exact rfl)
    | ((with_reducible apply lm_sR); exact rfl)
    | ((with_reducible apply lm_sS); exact rfl; exact rfl)
    | ((with_reducible apply lm_sL); exact rfl)
    | ((with_reducible apply lm_sP); exact rfl; exact rfl)
    | ((with_reducible apply lm_sPL); exact rfl; exact rfl)
    | ((with_reducible apply lm_sAA); exact rfl; exact rfl)
    | ((with_reducible apply lm_sA); (first | exact rfl | assumption); omega)
    | ((with_reducible apply lm_sJ); (first | exact rfl | assumption); omega)
    | ((with_reducible apply lm_sB); (first | exact rfl | assumption); omega)
    | ((with_reducible apply lm_wA); (first | exact rfl | assumption); omega)
    | ((with_reducible apply lm_wJ); (first | exact rfl | assumption); omega)
    | ((with_reducible apply lm_wB); (first | exact rfl | assumption); omega)
    | ((with_reducible apply lm_sAl); (first | exact rfl | assumption); omega)
    | ((with_reducible apply lm_iW); decide))
  exact lm_cV d5 rfl
end LMRU
