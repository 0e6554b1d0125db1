/-! ===== dsaSign of the reference: the attempts, the call ===== -/
section LMSF
variable {sc : lm_H} {C : lm_CX} {d s kk xl ml rl sl : Nat} {m m0 : lm_MI} {n n0 : lm_ML} {x : lm_H × Nat × Nat} {K U V R X Mg : Nat → Int32}
set_option maxRecDepth 100000 in
theorem lm_l30c (hs : s ≤ 2) (hR : lm_RD C s m n) (hE : lm_RE s m) (h4 : m 203 4 = 0) (hK : ∀ u, u < 32 → lm_b8 (m 208 u) = lm_b8 (K u)) (hU : ∀ i, i < 64 → lm_b8 (m 331 i) = lm_b8 (U i)) (hV : ∀ i, i < 64 → lm_b8 (m 330 i) = lm_b8 (V i)) (hS : ∀ t, t < lm_dl s + lm_dk s → ∀ c, c < 256 → m (270 + t) c = Int32.ofInt (lm_zS K s t c)) (hT : ∀ i, i < lm_dk s → ∀ c, c < 256 → m (270 + (15 + i)) c = Int32.ofInt (lm_zT K s i c)) : (∃ a, lm_sY C K U V s a ∧ ∃ m' n', lm_rn sc (d + 7) lm_m30.2.2.2.2.1 (lm_reg lm_m30.2.2.2.2.2) (318, [(0, .ref 203), (4, .int (Int32.ofNat 0))], []) (lm_w m n x) = some (.ok (some (.int (Int32.ofNat (a + 1)))), lm_w m' n' x) ∧ (∀ r, r ≠ 203 → r ≠ 211 → r ≠ 214 → r ≠ 227 → r ≠ 229 → (r < 293 ∨ 332 < r ∨ r = 330 ∨ r = 331) → m' r = m r) ∧ ln_fD m n m' n' ∧ m' 203 4 = 0 ∧ (∀ j, j ≠ 5 → m' 214 j = m 214 j) ∧ m' 214 5 = Int32.ofNat (lm_dps s) ∧ ∀ t, t < lm_dps s → lm_yb (m' 211 t) = lm_sig C K U V s (a * lm_dl s) t) ∨ (ln_sN C K U V s ∧ ∃ m' n', lm_rn sc (d + 7) lm_m30.2.2.2.2.1 (lm_reg lm_m30.2.2.2.2.2) (318, [(0, .ref 203), (4, .int (Int32.ofNat 0))], []) (lm_w m n x) = some (.ok (some (.int 0)), lm_w m' n' x) ∧ lm_fR m m' ∧ ln_fD m n m' n' ∧ m' 203 4 = Int32.ofInt 4) := by
  have hkl := lm_dkl hs
  have hpar := lm_dpar s hs
  have hps := lm_dps_e s
  have hdl : 32 * lm_dw s * lm_dl s ≤ 640 * 7 := Nat.mul_le_mul (by omega) (by omega)
  rcases lm_lpe (sc := sc) (d := d + 7) (b := 814) (hs := lm_m30.2.2.2.2.1) (code := lm_reg lm_m30.2.2.2.2.2) (x := x) (fr := fun a => (318, [(0, .ref 203), (4, .int (Int32.ofNat a))], [])) (I := fun a m' n' => lm_fR m m' ∧ ln_fD m n m' n' ∧ m' 203 4 = 0 ∧ ln_pa C K U V s a) (E := fun RR => (∃ a, lm_sY C K U V s a ∧ ∃ m' n', RR = (.ok (some (.int (Int32.ofNat (a + 1)))), lm_w m' n' x) ∧ (∀ r, r ≠ 203 → r ≠ 211 → r ≠ 214 → r ≠ 227 → r ≠ 229 → (r < 293 ∨ 332 < r ∨ r = 330 ∨ r = 331) → m' r = m r) ∧ ln_fD m n m' n' ∧ m' 203 4 = 0 ∧ (∀ j, j ≠ 5 → m' 214 j = m 214 j) ∧ m' 214 5 = Int32.ofNat (lm_dps s) ∧ ∀ t, t < lm_dps s → lm_yb (m' 211 t) = lm_sig C K U V s (a * lm_dl s) t) ∨ (ln_sN C K U V s ∧ ∃ m' n', RR = (.ok (some (.int 0)), lm_w m' n' x) ∧ lm_fR m m' ∧ ln_fD m n m' n' ∧ m' 203 4 = Int32.ofInt 4)) (fun a ha m1 n1 ⟨i1, i2, i3, i4⟩ => by
    have hal : a * lm_dl s ≤ 813 * 7 := Nat.mul_le_mul (by omega) hkl.2.1
    have R1 : lm_RD C s m1 n1 := hR.keepD i2 (i1 221 (by decide) (by decide) (by decide) (by decide)) (i1 268 (by decide) (by decide) (by decide) (by decide))
    have E1 : lm_RE s m1 := hE.of fun j a b => i2.1 j (by omega) (by omega) (by omega) (by omega) (by omega)
    have at1 := lm_u99 (sc := sc) (C := C) (K := K) (U := U) (V := V) (d := d) (m := m1) (n := n1) (x := x) (s := s) (j := a * lm_dl s) hs R1 E1 (fun u hu => by rw [i1 208 (by decide) (by decide) (by decide) (by decide)]; exact hK u hu) (fun i hi => by rw [i1 331 (by decide) (by decide) (by decide) (by decide)]; exact hU i hi) (fun i hi => by rw [i1 330 (by decide) (by decide) (by decide) (by decide)]; exact hV i hi) (by omega) (fun t ht c hc => by rw [i1 _ (by omega) (by omega) (by omega) (by omega)]; exact hS t ht c hc) (fun i hi c hc => by rw [i1 _ (by omega) (by omega) (by omega) (by omega)]; exact hT i hi c hc)
    have pre : ∀ (v5 : Int32) (σ' : lm_S) (RR : Except Nat lm_R × lm_S), lm_cal sc (d + 7) 99 [.ref 203, .int (Int32.ofNat (a * lm_dl s))] (lm_w m1 n1 x) = some (.ok (some (.int v5)), σ') → lm_if .lt v5 0 (lm_rn sc (d + 7) lm_m30.2.2.2.2.1 (lm_reg lm_m30.2.2.2.2.2) (350, [(0, .ref 203), (4, .int (Int32.ofNat a)), (5, .int v5)], [.int (Int32.ofInt 0), .ref 203])) (lm_rn sc (d + 7) lm_m30.2.2.2.2.1 (lm_reg lm_m30.2.2.2.2.2) (350, [(0, .ref 203), (4, .int (Int32.ofNat a)), (5, .int v5)], [.int (Int32.ofInt 1), .ref 203])) σ' = some RR → lm_rn sc (d + 7) lm_m30.2.2.2.2.1 (lm_reg lm_m30.2.2.2.2.2) (318, [(0, .ref 203), (4, .int (Int32.ofNat a))], []) (lm_w m1 n1 x) = some RR := by
      intro v5 σ' RR cc KK
      clear at1
      refine lm_e30_318 ?_
      unfold lm_q30_318
      rw [show Int32.ofInt 814 = Int32.ofNat 814 from rfl]
      refine lm_geF (by omega) (by omega) (by omega) ?_
      repeat (first
    | ((with_reducible apply lm_sI); exact rfl)
    | ((with_reducible apply lm_sR); exact rfl)
    | ((with_reducible apply lm_sS); exact rfl; exact rfl)
    | ((with_reducible apply lm_sL); exact rfl)
    | ((with_reducible apply lm_sP); exact rfl; exact rfl)
    | ((with_reducible apply lm_sPL); exact rfl; exact rfl)
    | ((with_reducible apply lm_sAA); exact rfl; exact rfl)
    | ((with_reducible apply lm_sA); (first | exact rfl | assumption); omega)
    | ((with_reducible apply lm_sJ); (first | exact rfl | assumption); omega)
    | ((with_reducible apply lm_sB); (first | exact rfl | assumption); omega)
    | ((with_reducible apply lm_wA); (first | exact rfl | assumption); omega)
    | ((with_reducible apply lm_wJ); (first | exact rfl | assumption); omega)
    | ((with_reducible apply lm_wB); (first | exact rfl | assumption); omega)
    | ((with_reducible apply lm_sAl); (first | exact rfl | assumption); omega)
    | ((with_reducible apply lm_iW); decide))
      simp only [Nat.reduceDiv, Nat.reduceMod]
      rw [R1.2.2.1, lm_om]
      refine lm_cI cc ?_
      exact KK
    rcases at1 with ⟨sA, b1, b2, m2, n2, c2, f2, g2, w2⟩ | ⟨sA, b1, b2, m2, n2, c2, f2, g2⟩ | ⟨b1, m2, n2, c2, f2, g2⟩
    · generalize eM3 : lm_u m2 203 4 (cond true 0 (Int32.ofInt 4)) = M3
      have u49 := lm_u49 (sc := sc) (d := d + 6) (m := m2) (n := n2) (x := x) (k := Int32.ofInt 4) true
      rw [eM3] at u49
      have r3 : ∀ r, r ≠ 203 → M3 r = m2 r := fun r hr => by rw [← eM3, lm_u_row hr]
      have f3 : ∀ j, j ≠ 4 → M3 203 j = m2 203 j := fun j hj => by rw [← eM3, lm_u_ne (fun g => hj g.2)]
      have E3 : lm_RE s M3 := E1.of fun j a b => by rw [f3 j (by omega), g2.1 j (by omega) (by omega) (by omega) (by omega)]
      have e42 : M3 203 42 = Int32.ofNat (lm_dl s) := by rw [f3 42 (by decide), g2.1 42 (by decide) (by decide) (by decide) (by decide)]; exact R1.2.2.1
      have e32 : M3 203 32 = Int32.ofNat (lm_dk s) := by rw [f3 32 (by decide), g2.1 32 (by decide) (by decide) (by decide) (by decide)]; exact R1.2.1
      generalize eM4 : lm_u M3 214 5 (Int32.ofNat (lm_dps s)) = M4
      have r4 : ∀ r, r ≠ 214 → M4 r = M3 r := fun r hr => by rw [← eM4, lm_u_row hr]
      have c5 := lm_u75 (sc := sc) (d := d + 6) (m := M4) (n := n2) (x := x) (q := 328) (p := 211) (v := 8192) (w := 65536) (a := 0) (b := 0) (l := lm_dps s) rfl rfl (by decide) (by omega) (by omega) (by decide) (by decide)
      generalize eM5 : lm_fil M4 211 0 (0 + lm_dps s) (fun i => lm_b8 (M4 328 (0 + (i - 0)))) = M5 at c5
      have r5 : ∀ r, r ≠ 211 → M5 r = M4 r := fun r hr => by rw [← eM5, lm_fl_row hr]
      refine Or.inr ⟨_, Or.inl ⟨a, ⟨sA, ha, i4, b1, b2⟩, M5, n2, rfl, fun r q1 q2 q3 q4 q5 q6 => by rw [r5 r q2, r4 r q3, r3 r q1, f2 r q1 q4 q5 q6, i1 r q1 q4 q5 q6], i2.tr (g2.D.tr ⟨fun j j1 _ _ _ _ => by rw [r5 203 (by decide), r4 203 (by decide), f3 j j1], fun _ _ _ _ _ _ _ => rfl⟩), ?_, fun j hj => ?_, ?_, fun t ht => ?_⟩, pre 1 _ _ c2 ?_⟩
      · rw [r5 203 (by decide), r4 203 (by decide), ← eM3, lm_u_eq]
        rfl
      · rw [r5 214 (by decide), ← eM4, lm_u_ne (fun g => hj g.2), r3 214 (by decide), f2 214 (by decide) (by decide) (by decide) (by decide), i1 214 (by decide) (by decide) (by decide) (by decide)]
      · rw [r5 214 (by decide), ← eM4, lm_u_eq]
      · rw [← eM5, lm_fl_in (by omega), lm_yb_b8, Nat.zero_add, Nat.sub_zero, r4 328 (by decide), r3 328 (by decide)]
        exact w2 t ht
      · clear w2 b2 hS hT
        refine lm_iF (show ¬ (1 : Int32) < 0 by decide) ?_
        refine lm_e30_350 ?_
        unfold lm_q30_350
        repeat (first
    | ((with_reducible apply lm_sI); exact rfl)
    | ((with_reducible apply lm_sR); exact rfl)
    | ((with_reducible apply lm_sS); exact rfl; exact rfl)
    | ((with_reducible apply lm_sL); exact rfl)
    | ((with_reducible apply lm_sP); exact rfl; exact rfl)
    | ((with_reducible apply lm_sPL); exact rfl; exact rfl)
    | ((with_reducible apply lm_sAA); exact rfl; exact rfl)
    | ((with_reducible apply lm_sA); (first | exact rfl | assumption); omega)
    | ((with_reducible apply lm_sJ); (first | exact rfl | assumption); omega)
    | ((with_reducible apply lm_sB); (first | exact rfl | assumption); omega)
    | ((with_reducible apply lm_wA); (first | exact rfl | assumption); omega)
    | ((with_reducible apply lm_wJ); (first | exact rfl | assumption); omega)
    | ((with_reducible apply lm_wB); (first | exact rfl | assumption); omega)
    | ((with_reducible apply lm_sAl); (first | exact rfl | assumption); omega)
    | ((with_reducible apply lm_iW); decide))
        refine lm_cI u49 ?_
        refine lm_iT (show ¬ (1 : Int32) = 0 by decide) ?_
        refine lm_iF (show ¬ ¬ (1 : Int32) = Int32.ofInt 1 by decide) ?_
        rw [lm_K5, lm_K32, lm_K0]
        repeat (first
    | ((with_reducible apply lm_sI); exact rfl)
    | ((with_reducible apply lm_sR); exact rfl)
    | ((with_reducible apply lm_sS); exact rfl; exact rfl)
    | ((with_reducible apply lm_sL); exact rfl)
    | ((with_reducible apply lm_sP); exact rfl; exact rfl)
    | ((with_reducible apply lm_sPL); exact rfl; exact rfl)
    | ((with_reducible apply lm_sAA); exact rfl; exact rfl)
    | ((with_reducible apply lm_sA); (first | exact rfl | assumption); omega)
    | ((with_reducible apply lm_sJ); (first | exact rfl | assumption); omega)
    | ((with_reducible apply lm_sB); (first | exact rfl | assumption); omega)
    | ((with_reducible apply lm_wA); (first | exact rfl | assumption); omega)
    | ((with_reducible apply lm_wJ); (first | exact rfl | assumption); omega)
    | ((with_reducible apply lm_wB); (first | exact rfl | assumption); omega)
    | ((with_reducible apply lm_sAl); (first | exact rfl | assumption); omega)
    | ((with_reducible apply lm_iW); decide))
        simp only [Nat.reduceDiv, Nat.reduceMod]
        rw [E3.2.2.2.2.1, e42, E3.2.2.2.2.2, E3.2.2.2.1, e32, lm_om, lm_om, lm_oo, lm_oo, lm_oo, show lm_dsz s + 32 * lm_dl s * lm_dw s + lm_do s + lm_dk s = lm_dps s by rw [lm_dps_e, Nat.mul_right_comm 32 (lm_dl s)], eM4]
        rw [show M4 214 5 = Int32.ofNat (lm_dps s) by rw [← eM4, lm_u_eq]]
        refine lm_cV c5 ?_
        rw [lm_K1, lm_oo]
        rfl
    · generalize eM3 : lm_u m2 203 4 (cond true 0 (Int32.ofInt 4)) = M3
      have u49 := lm_u49 (sc := sc) (d := d + 6) (m := m2) (n := n2) (x := x) (k := Int32.ofInt 4) true
      rw [eM3] at u49
      have r3 : ∀ r, r ≠ 203 → M3 r = m2 r := fun r hr => by rw [← eM3, lm_u_row hr]
      refine Or.inl ⟨M3, n2, ⟨fun r q1 q2 q3 q4 => by rw [r3 r q1, f2 r q1 q2 q3 q4, i1 r q1 q2 q3 q4], i2.tr (g2.D.tr (by rw [← eM3]; exact .u4)), by rw [← eM3, lm_u_eq]; rfl, fun b hb => ?_⟩, fun RR KK => pre 0 _ _ c2 ?_⟩
      · by_cases c0 : b = a
        · subst c0; exact ⟨b1, b2⟩
        · exact i4 b (by omega)
      · clear b2 hS hT
        refine lm_iF (show ¬ (0 : Int32) < 0 by decide) ?_
        refine lm_e30_350 ?_
        unfold lm_q30_350
        repeat (first
    | ((with_reducible apply lm_sI); exact rfl)
    | ((with_reducible apply lm_sR); exact rfl)
    | ((with_reducible apply lm_sS); exact rfl; exact rfl)
    | ((with_reducible apply lm_sL); exact rfl)
    | ((with_reducible apply lm_sP); exact rfl; exact rfl)
    | ((with_reducible apply lm_sPL); exact rfl; exact rfl)
    | ((with_reducible apply lm_sAA); exact rfl; exact rfl)
    | ((with_reducible apply lm_sA); (first | exact rfl | assumption); omega)
    | ((with_reducible apply lm_sJ); (first | exact rfl | assumption); omega)
    | ((with_reducible apply lm_sB); (first | exact rfl | assumption); omega)
    | ((with_reducible apply lm_wA); (first | exact rfl | assumption); omega)
    | ((with_reducible apply lm_wJ); (first | exact rfl | assumption); omega)
    | ((with_reducible apply lm_wB); (first | exact rfl | assumption); omega)
    | ((with_reducible apply lm_sAl); (first | exact rfl | assumption); omega)
    | ((with_reducible apply lm_iW); decide))
        refine lm_cI u49 ?_
        refine lm_iT (show ¬ (1 : Int32) = 0 by decide) ?_
        refine lm_iT (show ¬ (0 : Int32) = Int32.ofInt 1 by decide) ?_
        rw [lm_K1, lm_oo]
        exact KK
    · have u49 := lm_u49 (sc := sc) (d := d + 6) (m := m2) (n := n2) (x := x) (k := Int32.ofInt 4) false
      refine Or.inr ⟨_, Or.inr ⟨?_, lm_u m2 203 4 (Int32.ofInt 4), n2, rfl, fun r q1 q2 q3 q4 => by rw [lm_u_row q1, f2 r q1 q2 q3 q4, i1 r q1 q2 q3 q4], i2.tr (g2.D.tr .u4), lm_u_eq⟩, pre _ _ _ c2 ?_⟩
      · rcases b1 with b1 | b1
        · exact Or.inl b1
        · exact Or.inr (Or.inl ⟨a, ha, i4, b1⟩)
      · refine lm_iT (show Int32.ofInt (-1) < 0 by decide) ?_
        refine lm_e30_350 ?_
        unfold lm_q30_350
        repeat (first
    | ((with_reducible apply lm_sI); exact rfl)
    | ((with_reducible apply lm_sR); exact rfl)
    | ((with_reducible apply lm_sS); exact rfl; exact rfl)
    | ((with_reducible apply lm_sL); exact rfl)
    | ((with_reducible apply lm_sP); exact rfl; exact rfl)
    | ((with_reducible apply lm_sPL); exact rfl; exact rfl)
    | ((with_reducible apply lm_sAA); exact rfl; exact rfl)
    | ((with_reducible apply lm_sA); (first | exact rfl | assumption); omega)
    | ((with_reducible apply lm_sJ); (first | exact rfl | assumption); omega)
    | ((with_reducible apply lm_sB); (first | exact rfl | assumption); omega)
    | ((with_reducible apply lm_wA); (first | exact rfl | assumption); omega)
    | ((with_reducible apply lm_wJ); (first | exact rfl | assumption); omega)
    | ((with_reducible apply lm_wB); (first | exact rfl | assumption); omega)
    | ((with_reducible apply lm_sAl); (first | exact rfl | assumption); omega)
    | ((with_reducible apply lm_iW); decide))
        refine lm_cI u49 ?_
        exact lm_iF (show ¬ ¬ (0 : Int32) = 0 by decide) rfl) 814 0 (by omega) m n ⟨fun _ _ _ _ _ => rfl, .rf, h4, fun b hb => absurd hb (by omega)⟩ with ⟨m1, n1, ⟨i1, i2, i3, i4⟩, k1⟩ | ⟨RR, ER, k1⟩
  · have u49 := lm_u49 (sc := sc) (d := d + 6) (m := m1) (n := n1) (x := x) (k := Int32.ofInt 4) false
    refine Or.inr ⟨Or.inr (Or.inr i4), lm_u m1 203 4 (Int32.ofInt 4), n1, k1 _ (lm_e30_318 ?_), fun r q1 q2 q3 q4 => by rw [lm_u_row q1, i1 r q1 q2 q3 q4], i2.tr .u4, lm_u_eq⟩
    unfold lm_q30_318
    rw [show Int32.ofInt 814 = Int32.ofNat 814 from rfl]
    refine lm_geT (by omega) (by omega) (by omega) ?_
    repeat (first
    | ((with_reducible apply lm_sI); exact rfl)
    | ((with_reducible apply lm_sR); exact rfl)
    | ((with_reducible apply lm_sS); exact rfl; exact rfl)
    | ((with_reducible apply lm_sL); exact rfl)
    | ((with_reducible apply lm_sP); exact rfl; exact rfl)
    | ((with_reducible apply lm_sPL); exact rfl; exact rfl)
    | ((with_reducible apply lm_sAA); exact rfl; exact rfl)
    | ((with_reducible apply lm_sA); (first | exact rfl | assumption); omega)
    | ((with_reducible apply lm_sJ); (first | exact rfl | assumption); omega)
    | ((with_reducible apply lm_sB); (first | exact rfl | assumption); omega)
    | ((with_reducible apply lm_wA); (first | exact rfl | assumption); omega)
    | ((with_reducible apply lm_wJ); (first | exact rfl | assumption); omega)
    | ((with_reducible apply lm_wB); (first | exact rfl | assumption); omega)
    | ((with_reducible apply lm_sAl); (first | exact rfl | assumption); omega)
    | ((with_reducible apply lm_iW); decide))
    exact lm_cI u49 rfl
  · rcases ER with ⟨a, y, m', n', eR, q⟩ | ⟨y, m', n', eR, q⟩
    · exact Or.inl ⟨a, y, m', n', by rw [k1, eR], q⟩
    · exact Or.inr ⟨y, m', n', by rw [k1, eR], q⟩
/-- up to the seeds' first question -/
theorem lm_l30d {b : Int32} (hs : s ≤ 2) (hk : kk ≤ 13) (hx : m 214 4 = Int32.ofNat xl) (hx6 : xl ≤ 65536) (h0 : m 214 0 = Int32.ofNat rl) (hrl : rl ≤ 65536) (hb : b = if (kk = 0 ∨ xl ≤ 255) ∧ (rl = 0 ∨ rl = 32) then Int32.ofInt 1 else Int32.ofInt 0) : ∀ RR, lm_rn sc (d + 7) lm_m30.2.2.2.2.1 (lm_reg lm_m30.2.2.2.2.2) (73, [(0, .ref 203), (2, .int (ln_kd kk))], [.int b, .ref 203]) (lm_w (lm_dm2 (lm_u m 203 4 0) s) n x) = some RR → lm_cal sc (d + 8) 30 [.ref 203, .int (Int32.ofNat s), .int (ln_kd kk)] (lm_w m n x) = some RR := by
  intro RR KK
  have u86 := lm_u86 (sc := sc) (d := d + 6) (m := lm_u m 203 4 0) (n := n) (x := x) hs
  have a1 : lm_dm2 (lm_u m 203 4 0) s 214 = m 214 := by rw [lm_dm2_row (by decide) (by decide), lm_u_row (by decide)]
  generalize lm_dm2 (lm_u m 203 4 0) s = M at *
  have u96 := ln_u96 (sc := sc) (d := d + 6) (m := M) (n := n) (x := x) (kk := kk) (xl := xl) hk (by rw [a1]; exact hx) hx6
  have e72 : b = Int32.ofInt 0 → lm_rn sc (d + 7) lm_m30.2.2.2.2.1 (lm_reg lm_m30.2.2.2.2.2) (72, [(0, .ref 203), (2, .int (ln_kd kk))], [.ref 203]) (lm_w M n x) = some RR := by
    intro e
    rw [e] at KK
    refine lm_e30_72 ?_
    unfold lm_q30_72
    exact KK
  have e68 : b = Int32.ofInt 1 → lm_rn sc (d + 7) lm_m30.2.2.2.2.1 (lm_reg lm_m30.2.2.2.2.2) (68, [(0, .ref 203), (2, .int (ln_kd kk))], [.ref 203]) (lm_w M n x) = some RR := by
    intro e
    rw [e] at KK
    refine lm_e30_68 ?_
    unfold lm_q30_68
    exact KK
  refine lm_cal_of (Y := lm_m30) rfl rfl (lm_e30_0 ?_)
  unfold lm_q30_0
  refine lm_cI (lm_t52n (i := s) (d := d + 6) (n := 2) hs (by omega)) ?_
  refine lm_iF (show ¬ (1 : Int32) = 0 by decide) ?_
  refine lm_cI (lm_t52t (d := d + 6) (ln_kd_r hk)) ?_
  refine lm_iF (show ¬ (1 : Int32) = 0 by decide) ?_
  refine lm_e30_25 ?_
  unfold lm_q30_25
  repeat (first
    | ((with_reducible apply lm_sI); exact rfl)
    | ((with_reducible apply lm_sR); exact rfl)
    | ((with_reducible apply lm_sS); exact rfl; exact rfl)
    | ((with_reducible apply lm_sL); exact rfl)
    | ((with_reducible apply lm_sP); exact rfl; exact rfl)
    | ((with_reducible apply lm_sPL); exact rfl; exact rfl)
    | ((with_reducible apply lm_sAA); exact rfl; exact rfl)
    | ((with_reducible apply lm_sA); (first | exact rfl | assumption); omega)
    | ((with_reducible apply lm_sJ); (first | exact rfl | assumption); omega)
    | ((with_reducible apply lm_sB); (first | exact rfl | assumption); omega)
    | ((with_reducible apply lm_wA); (first | exact rfl | assumption); omega)
    | ((with_reducible apply lm_wJ); (first | exact rfl | assumption); omega)
    | ((with_reducible apply lm_wB); (first | exact rfl | assumption); omega)
    | ((with_reducible apply lm_sAl); (first | exact rfl | assumption); omega)
    | ((with_reducible apply lm_iW); decide))
  refine lm_cI (lm_u49 (d := d + 6) true) ?_
  refine lm_iT (show ¬ (1 : Int32) = 0 by decide) ?_
  repeat (first
    | ((with_reducible apply lm_sI); exact rfl)
    | ((with_reducible apply lm_sR); exact rfl)
    | ((with_reducible apply lm_sS); exact rfl; exact rfl)
    | ((with_reducible apply lm_sL); exact rfl)
    | ((with_reducible apply lm_sP); exact rfl; exact rfl)
    | ((with_reducible apply lm_sPL); exact rfl; exact rfl)
    | ((with_reducible apply lm_sAA); exact rfl; exact rfl)
    | ((with_reducible apply lm_sA); (first | exact rfl | assumption); omega)
    | ((with_reducible apply lm_sJ); (first | exact rfl | assumption); omega)
    | ((with_reducible apply lm_sB); (first | exact rfl | assumption); omega)
    | ((with_reducible apply lm_wA); (first | exact rfl | assumption); omega)
    | ((with_reducible apply lm_wJ); (first | exact rfl | assumption); omega)
    | ((with_reducible apply lm_wB); (first | exact rfl | assumption); omega)
    | ((with_reducible apply lm_sAl); (first | exact rfl | assumption); omega)
    | ((with_reducible apply lm_iW); decide))
  refine lm_cV u86 ?_
  repeat (first
    | ((with_reducible apply lm_sI); exact rfl)
    | ((with_reducible apply lm_sR); exact rfl)
    | ((with_reducible apply lm_sS); exact rfl; exact rfl)
    | ((with_reducible apply lm_sL); exact rfl)
    | ((with_reducible apply lm_sP); exact rfl; exact rfl)
    | ((with_reducible apply lm_sPL); exact rfl; exact rfl)
    | ((with_reducible apply lm_sAA); exact rfl; exact rfl)
    | ((with_reducible apply lm_sA); (first | exact rfl | assumption); omega)
    | ((with_reducible apply lm_sJ); (first | exact rfl | assumption); omega)
    | ((with_reducible apply lm_sB); (first | exact rfl | assumption); omega)
    | ((with_reducible apply lm_wA); (first | exact rfl | assumption); omega)
    | ((with_reducible apply lm_wJ); (first | exact rfl | assumption); omega)
    | ((with_reducible apply lm_wB); (first | exact rfl | assumption); omega)
    | ((with_reducible apply lm_sAl); (first | exact rfl | assumption); omega)
    | ((with_reducible apply lm_iW); decide))
  refine lm_cI u96 ?_
  by_cases c1 : kk = 0 ∨ xl ≤ 255
  · rw [decide_eq_true c1]
    refine lm_iF (show ¬ (1 : Int32) = 0 by decide) ?_
    rw [lm_K0, lm_K32]
    repeat (first
    | ((with_reducible apply lm_sI); exact rfl)
    | ((with_reducible apply lm_sR); exact rfl)
    | ((with_reducible apply lm_sS); exact rfl; exact rfl)
    | ((with_reducible apply lm_sL); exact rfl)
    | ((with_reducible apply lm_sP); exact rfl; exact rfl)
    | ((with_reducible apply lm_sPL); exact rfl; exact rfl)
    | ((with_reducible apply lm_sAA); exact rfl; exact rfl)
    | ((with_reducible apply lm_sA); (first | exact rfl | assumption); omega)
    | ((with_reducible apply lm_sJ); (first | exact rfl | assumption); omega)
    | ((with_reducible apply lm_sB); (first | exact rfl | assumption); omega)
    | ((with_reducible apply lm_wA); (first | exact rfl | assumption); omega)
    | ((with_reducible apply lm_wJ); (first | exact rfl | assumption); omega)
    | ((with_reducible apply lm_wB); (first | exact rfl | assumption); omega)
    | ((with_reducible apply lm_sAl); (first | exact rfl | assumption); omega)
    | ((with_reducible apply lm_iW); decide))
    rw [a1, h0]
    by_cases c32 : rl = 32
    · refine lm_eqT (by omega) (by omega) c32 ?_
      exact e68 (by rw [hb, if_pos ⟨c1, Or.inr c32⟩])
    · refine lm_eqF (by omega) (by omega) c32 ?_
      repeat (first
    | ((with_reducible apply lm_sI); exact rfl)
    | ((with_reducible apply lm_sR); exact rfl)
    | ((with_reducible apply lm_sS); exact rfl; exact rfl)
    | ((with_reducible apply lm_sL); exact rfl)
    | ((with_reducible apply lm_sP); exact rfl; exact rfl)
    | ((with_reducible apply lm_sPL); exact rfl; exact rfl)
    | ((with_reducible apply lm_sAA); exact rfl; exact rfl)
    | ((with_reducible apply lm_sA); (first | exact rfl | assumption); omega)
    | ((with_reducible apply lm_sJ); (first | exact rfl | assumption); omega)
    | ((with_reducible apply lm_sB); (first | exact rfl | assumption); omega)
    | ((with_reducible apply lm_wA); (first | exact rfl | assumption); omega)
    | ((with_reducible apply lm_wJ); (first | exact rfl | assumption); omega)
    | ((with_reducible apply lm_wB); (first | exact rfl | assumption); omega)
    | ((with_reducible apply lm_sAl); (first | exact rfl | assumption); omega)
    | ((with_reducible apply lm_iW); decide))
      rw [a1, h0]
      by_cases c0 : rl = 0
      · rw [c0]
        refine lm_iF (show ¬ ¬ Int32.ofNat 0 = 0 by decide) ?_
        exact e68 (by rw [hb, if_pos ⟨c1, Or.inl c0⟩])
      · refine lm_neT (b := 0) (by omega) (by omega) c0 ?_
        exact e72 (by rw [hb, if_neg (by omega)])
  · rw [decide_eq_false c1]
    refine lm_iT (show (0 : Int32) = 0 by decide) ?_
    exact e72 (by rw [hb, if_neg (fun g => c1 g.1)])
theorem lm_u30e (hs : s ≤ 2) (hk : kk ≤ 13) (hx : m 214 4 = Int32.ofNat xl) (hx6 : xl ≤ 65536) (h0 : m 214 0 = Int32.ofNat rl) (hrl : rl ≤ 65536) (hn : ¬ ((kk = 0 ∨ xl ≤ 255) ∧ (rl = 0 ∨ rl = 32))) : lm_cal sc (d + 8) 30 [.ref 203, .int (Int32.ofNat s), .int (ln_kd kk)] (lm_w m n x) = some (.ok (some (.int 0)), lm_w (lm_u (lm_dm2 (lm_u m 203 4 0) s) 203 4 2) n x) := by
  refine lm_l30d (b := Int32.ofInt 0) hs hk hx hx6 h0 hrl (by rw [if_neg hn]) _ (lm_e30_73 ?_)
  unfold lm_q30_73
  repeat (first
    | ((with_reducible apply lm_sI); exact rfl)
    | ((with_reducible apply lm_sR); exact rfl)
    | ((with_reducible apply lm_sS); exact rfl; exact rfl)
    | ((with_reducible apply lm_sL); exact rfl)
    | ((with_reducible apply lm_sP); exact rfl; exact rfl)
    | ((with_reducible apply lm_sPL); exact rfl; exact rfl)
    | ((with_reducible apply lm_sAA); exact rfl; exact rfl)
    | ((with_reducible apply lm_sA); (first | exact rfl | assumption); omega)
    | ((with_reducible apply lm_sJ); (first | exact rfl | assumption); omega)
    | ((with_reducible apply lm_sB); (first | exact rfl | assumption); omega)
    | ((with_reducible apply lm_wA); (first | exact rfl | assumption); omega)
    | ((with_reducible apply lm_wJ); (first | exact rfl | assumption); omega)
    | ((with_reducible apply lm_wB); (first | exact rfl | assumption); omega)
    | ((with_reducible apply lm_sAl); (first | exact rfl | assumption); omega)
    | ((with_reducible apply lm_iW); decide))
  refine lm_cI (lm_u49 (d := d + 6) false) ?_
  exact lm_iT (show (0 : Int32) = 0 by decide) rfl
/-- up to the secret's size -/
theorem lm_l30e {b : Int32} (hs : s ≤ 2) (hk : kk ≤ 13) (hx : m 214 4 = Int32.ofNat xl) (hx6 : xl ≤ 65536) (h0 : m 214 0 = Int32.ofNat rl) (hy : (kk = 0 ∨ xl ≤ 255) ∧ (rl = 0 ∨ rl = 32)) (h2 : m 214 2 = Int32.ofNat sl) (hsl : sl ≤ 65536) (hb : b = if sl = lm_dss s then Int32.ofInt 1 else Int32.ofInt 0) : ∀ RR, lm_rn sc (d + 7) lm_m30.2.2.2.2.1 (lm_reg lm_m30.2.2.2.2.2) (99, [(0, .ref 203), (2, .int (ln_kd kk))], [.int b, .ref 203]) (lm_w (lm_u (lm_dm2 (lm_u m 203 4 0) s) 203 4 0) n x) = some RR → lm_cal sc (d + 8) 30 [.ref 203, .int (Int32.ofNat s), .int (ln_kd kk)] (lm_w m n x) = some RR := by
  intro RR KK
  have hsz := lm_xsz s hs
  have hkl := lm_dkl hs
  refine lm_l30d (b := Int32.ofInt 1) hs hk hx hx6 h0 (by omega) (by rw [if_pos hy]) _ (lm_e30_73 ?_)
  have D1 := lm_dm2_RD (C := lm_cx (lm_u m 203 4 0) n) (s := s) (m := lm_u m 203 4 0) (n := n) rfl
  have a1 : lm_dm2 (lm_u m 203 4 0) s 214 = m 214 := by rw [lm_dm2_row (by decide) (by decide), lm_u_row (by decide)]
  generalize lm_dm2 (lm_u m 203 4 0) s = M at *
  have u94 := lm_u94' (sc := sc) (d := d + 6) (m := lm_u M 203 4 0) (n := n) (x := x) hs (by rw [lm_u_ne (by decide)]; exact D1.2.1) (by rw [lm_u_ne (by decide)]; exact D1.2.2.1) (by rw [lm_u_ne (by decide)]; exact D1.2.2.2.1)
  unfold lm_q30_73
  repeat (first
    | ((with_reducible apply lm_sI); exact rfl)
    | ((with_reducible apply lm_sR); exact rfl)
    | ((with_reducible apply lm_sS); exact rfl; exact rfl)
    | ((with_reducible apply lm_sL); exact rfl)
    | ((with_reducible apply lm_sP); exact rfl; exact rfl)
    | ((with_reducible apply lm_sPL); exact rfl; exact rfl)
    | ((with_reducible apply lm_sAA); exact rfl; exact rfl)
    | ((with_reducible apply lm_sA); (first | exact rfl | assumption); omega)
    | ((with_reducible apply lm_sJ); (first | exact rfl | assumption); omega)
    | ((with_reducible apply lm_sB); (first | exact rfl | assumption); omega)
    | ((with_reducible apply lm_wA); (first | exact rfl | assumption); omega)
    | ((with_reducible apply lm_wJ); (first | exact rfl | assumption); omega)
    | ((with_reducible apply lm_wB); (first | exact rfl | assumption); omega)
    | ((with_reducible apply lm_sAl); (first | exact rfl | assumption); omega)
    | ((with_reducible apply lm_iW); decide))
  refine lm_cI (lm_u49 (d := d + 6) true) ?_
  refine lm_iF (show ¬ (1 : Int32) = 0 by decide) ?_
  rw [show lm_u M 203 4 (cond true 0 (Int32.ofInt 2)) = lm_u M 203 4 0 from rfl, lm_K2]
  repeat (first
    | ((with_reducible apply lm_sI); exact rfl)
    | ((with_reducible apply lm_sR); exact rfl)
    | ((with_reducible apply lm_sS); exact rfl; exact rfl)
    | ((with_reducible apply lm_sL); exact rfl)
    | ((with_reducible apply lm_sP); exact rfl; exact rfl)
    | ((with_reducible apply lm_sPL); exact rfl; exact rfl)
    | ((with_reducible apply lm_sAA); exact rfl; exact rfl)
    | ((with_reducible apply lm_sA); (first | exact rfl | assumption); omega)
    | ((with_reducible apply lm_sJ); (first | exact rfl | assumption); omega)
    | ((with_reducible apply lm_sB); (first | exact rfl | assumption); omega)
    | ((with_reducible apply lm_wA); (first | exact rfl | assumption); omega)
    | ((with_reducible apply lm_wJ); (first | exact rfl | assumption); omega)
    | ((with_reducible apply lm_wB); (first | exact rfl | assumption); omega)
    | ((with_reducible apply lm_sAl); (first | exact rfl | assumption); omega)
    | ((with_reducible apply lm_iW); decide))
  refine lm_cI u94 ?_
  rw [lm_u_row (by decide), a1, h2]
  by_cases c : sl = lm_dss s
  · refine lm_neF (by omega) (by omega) (fun g => g c) ?_
    rw [hb, if_pos c] at KK
    exact KK
  · refine lm_neT (by omega) (by omega) c ?_
    rw [hb, if_neg c] at KK
    exact KK
theorem lm_u30g (hs : s ≤ 2) (hk : kk ≤ 13) (hx : m 214 4 = Int32.ofNat xl) (hx6 : xl ≤ 65536) (h0 : m 214 0 = Int32.ofNat rl) (hy : (kk = 0 ∨ xl ≤ 255) ∧ (rl = 0 ∨ rl = 32)) (h2 : m 214 2 = Int32.ofNat sl) (hsl : sl ≤ 65536) (hn : sl ≠ lm_dss s) : lm_cal sc (d + 8) 30 [.ref 203, .int (Int32.ofNat s), .int (ln_kd kk)] (lm_w m n x) = some (.ok (some (.int 0)), lm_w (lm_u (lm_dm2 (lm_u m 203 4 0) s) 203 4 3) n x) := by
  refine lm_l30e (b := Int32.ofInt 0) hs hk hx hx6 h0 hy h2 hsl (by rw [if_neg hn]) _ (lm_e30_99 ?_)
  unfold lm_q30_99
  repeat (first
    | ((with_reducible apply lm_sI); exact rfl)
    | ((with_reducible apply lm_sR); exact rfl)
    | ((with_reducible apply lm_sS); exact rfl; exact rfl)
    | ((with_reducible apply lm_sL); exact rfl)
    | ((with_reducible apply lm_sP); exact rfl; exact rfl)
    | ((with_reducible apply lm_sPL); exact rfl; exact rfl)
    | ((with_reducible apply lm_sAA); exact rfl; exact rfl)
    | ((with_reducible apply lm_sA); (first | exact rfl | assumption); omega)
    | ((with_reducible apply lm_sJ); (first | exact rfl | assumption); omega)
    | ((with_reducible apply lm_sB); (first | exact rfl | assumption); omega)
    | ((with_reducible apply lm_wA); (first | exact rfl | assumption); omega)
    | ((with_reducible apply lm_wJ); (first | exact rfl | assumption); omega)
    | ((with_reducible apply lm_wB); (first | exact rfl | assumption); omega)
    | ((with_reducible apply lm_sAl); (first | exact rfl | assumption); omega)
    | ((with_reducible apply lm_iW); decide))
  refine lm_cI (lm_u49 (d := d + 6) false) ?_
  rw [lm_uu]
  exact lm_iF (show ¬ ¬ (0 : Int32) = 0 by decide) rfl
theorem lm_u30h (hC : lm_cx m n = C) (hs : s ≤ 2) (hk : kk ≤ 13) (hx : m 214 4 = Int32.ofNat xl) (hx6 : xl ≤ 65536) (h0 : m 214 0 = Int32.ofNat rl) (hy : (kk = 0 ∨ xl ≤ 255) ∧ (rl = 0 ∨ rl = 32)) (h2 : m 214 2 = Int32.ofNat (lm_dss s)) (hm : m 214 3 = Int32.ofNat ml) (hml : ml ≤ 65536) (hK : ∀ u, u < lm_dss s → lm_b8 (m 208 u) = lm_b8 (K u)) (hRr : ∀ u, u < rl → lm_b8 (m 206 u) = lm_b8 (R u)) (hX : ∀ t, t < xl → lm_b8 (m 210 t) = lm_b8 (X t)) (hM : ∀ t, t < ml → lm_b8 (m 209 t) = lm_b8 (Mg t)) : (∃ a, lm_sY C K (lm_sU C K R rl (lm_sV C K kk X xl Mg ml)) (lm_sV C K kk X xl Mg ml) s a ∧ ∃ m' n', lm_cal sc (d + 8) 30 [.ref 203, .int (Int32.ofNat s), .int (ln_kd kk)] (lm_w m n x) = some (.ok (some (.int (Int32.ofNat (a + 1)))), lm_w m' n' x) ∧ (∀ r, r ≠ 203 → r ≠ 211 → r ≠ 214 → r ≠ 227 → r ≠ 229 → (r < 268 ∨ 332 < r) → m' r = m r) ∧ (∀ j, j ≠ 4 → j ≠ 18 → j ≠ 19 → j ≠ 20 → j ≠ 24 → j ≠ 32 → (j < 42 ∨ 49 < j) → m' 203 j = m 203 j) ∧ (∀ q, q ≠ 203 → q ≠ 223 → q ≠ 224 → q ≠ 225 → q ≠ 226 → q ≠ 230 → n' q = n q) ∧ m' 203 4 = 0 ∧ (∀ j, j ≠ 5 → m' 214 j = m 214 j) ∧ m' 214 5 = Int32.ofNat (lm_dps s) ∧ ∀ t, t < lm_dps s → lm_yb (m' 211 t) = lm_sig C K (lm_sU C K R rl (lm_sV C K kk X xl Mg ml)) (lm_sV C K kk X xl Mg ml) s (a * lm_dl s) t) ∨ (ln_sN C K (lm_sU C K R rl (lm_sV C K kk X xl Mg ml)) (lm_sV C K kk X xl Mg ml) s ∧ ∃ m' n', lm_cal sc (d + 8) 30 [.ref 203, .int (Int32.ofNat s), .int (ln_kd kk)] (lm_w m n x) = some (.ok (some (.int 0)), lm_w m' n' x) ∧ (∀ r, r ≠ 203 → r ≠ 227 → r ≠ 229 → (r < 268 ∨ 332 < r) → m' r = m r) ∧ (∀ j, j ≠ 4 → j ≠ 18 → j ≠ 19 → j ≠ 20 → j ≠ 24 → j ≠ 32 → (j < 42 ∨ 49 < j) → m' 203 j = m 203 j) ∧ (∀ q, q ≠ 203 → q ≠ 223 → q ≠ 224 → q ≠ 225 → q ≠ 226 → q ≠ 230 → n' q = n q) ∧ m' 203 4 = Int32.ofInt 4) := by
  have hsz := lm_xsz s hs
  have hb1 := lm_xb1_ge s
  have C0 : lm_cx (lm_u m 203 4 0) n = C := by
    rw [← hC]
    unfold lm_cx lm_tb
    rw [lm_u_row (by decide)]
  have D0 := lm_dm2_RD (s := s) C0
  have E0 : lm_RE s (lm_dm2 (lm_u m 203 4 0) s) := lm_dm2_RE
  have a0 : ∀ r, r ≠ 203 → r ≠ 268 → lm_dm2 (lm_u m 203 4 0) s r = m r := fun r r1 r2 => by rw [lm_dm2_row r1 r2, lm_u_row r1]
  have b0 : ∀ j, j ≠ 4 → j ≠ 32 → (j < 42 ∨ 49 < j) → lm_dm2 (lm_u m 203 4 0) s 203 j = m 203 j := fun j j1 j2 j3 => by rw [lm_dm2_f j2 j3, lm_u_ne (fun g => j1 g.2)]
  have l30e := lm_l30e (sc := sc) (d := d) (n := n) (x := x) (b := Int32.ofInt 1) hs hk hx hx6 h0 hy h2 (by have := lm_dkl hs; omega) (by rw [if_pos rfl])
  generalize lm_dm2 (lm_u m 203 4 0) s = M0 at D0 E0 a0 b0 l30e
  generalize eM1 : lm_u M0 203 4 0 = M1 at l30e
  have r1 : ∀ r, r ≠ 203 → M1 r = M0 r := fun r hr => by rw [← eM1, lm_u_row hr]
  have f1 : ln_fD M0 n M1 n := by rw [← eM1]; exact .u4
  have D1 : lm_RD C s M1 n := D0.keepD f1 (r1 221 (by decide)) (r1 268 (by decide))
  have E1 : lm_RE s M1 := E0.of fun j a b => f1.1 j (by omega) (by omega) (by omega) (by omega) (by omega)
  have e1 : ∀ r, r ≠ 203 → r ≠ 268 → M1 r = m r := fun r q1 q2 => by rw [r1 r q1, a0 r q1 q2]
  obtain ⟨m2, n2, ⟨g1, g2, g3, g4⟩, k2⟩ := lm_l30a (sc := sc) (C := C) (d := d) (m := M1) (n := n) (x := x) (s := s) (kk := kk) (xl := xl) (ml := ml) (rl := rl) (K := K) (R := R) (X := X) (Mg := Mg) hs D1 hy.2 (by rw [e1 214 (by decide) (by decide)]; exact h0) (fun u hu => by rw [e1 208 (by decide) (by decide)]; exact hK u hu) (fun u hu => by rw [e1 206 (by decide) (by decide)]; exact hRr u hu) hk hy.1 (by rw [e1 214 (by decide) (by decide)]; exact hx) (by rw [e1 214 (by decide) (by decide)]; exact hm) hml (fun t ht => by rw [e1 210 (by decide) (by decide)]; exact hX t ht) (fun t ht => by rw [e1 209 (by decide) (by decide)]; exact hM t ht)
  generalize lm_sV C K kk X xl Mg ml = V at *
  generalize lm_sU C K R rl V = U at *
  have D2 : lm_RD C s m2 n2 := D1.keep g2.B (g1 221 (by decide) (by decide) (by decide) (by decide) (by decide)) (g1 268 (by decide) (by decide) (by decide) (by decide) (by decide))
  have E2 : lm_RE s m2 := E1.of fun j a b => g2.1 j (by omega) (by omega) (by omega)
  have e2 : ∀ r, r ≠ 203 → r ≠ 227 → (r < 268 ∨ 332 < r) → m2 r = m r := fun r q1 q2 q3 => by rw [g1 r q1 q2 (by omega) (by omega) (by omega), e1 r q1 (by omega)]
  obtain ⟨m3, ⟨p1, p2, p3, p4⟩, k3⟩ := lm_l30b (sc := sc) (C := C) (d := d) (m := m2) (n := n2) (x := x) (s := s) (K := K) hs D2 (fun u hu => by rw [e2 208 (by decide) (by decide) (by decide)]; exact hK u hu)
  have P3 : ln_fD m2 n2 m3 n2 := ⟨fun j _ _ _ _ g => p2 j g, fun _ _ _ _ _ _ _ => rfl⟩
  have D3 : lm_RD C s m3 n2 := D2.keepD P3 (p1 221 (by decide) (by decide)) (p1 268 (by decide) (by decide))
  have E3 : lm_RE s m3 := E2.of fun j a b => p2 j (by omega)
  have e3 : ∀ r, r ≠ 203 → r ≠ 227 → (r < 268 ∨ 332 < r) → m3 r = m r := fun r q1 q2 q3 => by rw [p1 r q1 (by omega), e2 r q1 q2 q3]
  have z4 : m3 203 4 = 0 := by rw [p2 4 (by decide), g2.1 4 (by decide) (by decide) (by decide), ← eM1, lm_u_eq]
  have F3 : ln_fD M0 n m3 n2 := f1.tr (g2.B.D.tr P3)
  have run : ∀ RR, lm_rn sc (d + 7) lm_m30.2.2.2.2.1 (lm_reg lm_m30.2.2.2.2.2) (318, [(0, .ref 203), (4, .int (Int32.ofNat 0))], []) (lm_w m3 n2 x) = some RR → lm_cal sc (d + 8) 30 [.ref 203, .int (Int32.ofNat s), .int (ln_kd kk)] (lm_w m n x) = some RR := by
    intro RR KK
    clear g3 g4 p3 p4
    refine l30e RR (lm_e30_99 ?_)
    unfold lm_q30_99
    repeat (first
    | ((with_reducible apply lm_sI); exact rfl)
    | ((with_reducible apply lm_sR); exact rfl)
    | ((with_reducible apply lm_sS); exact rfl; exact rfl)
    | ((with_reducible apply lm_sL); exact rfl)
    | ((with_reducible apply lm_sP); exact rfl; exact rfl)
    | ((with_reducible apply lm_sPL); exact rfl; exact rfl)
    | ((with_reducible apply lm_sAA); exact rfl; exact rfl)
    | ((with_reducible apply lm_sA); (first | exact rfl | assumption); omega)
    | ((with_reducible apply lm_sJ); (first | exact rfl | assumption); omega)
    | ((with_reducible apply lm_sB); (first | exact rfl | assumption); omega)
    | ((with_reducible apply lm_wA); (first | exact rfl | assumption); omega)
    | ((with_reducible apply lm_wJ); (first | exact rfl | assumption); omega)
    | ((with_reducible apply lm_wB); (first | exact rfl | assumption); omega)
    | ((with_reducible apply lm_sAl); (first | exact rfl | assumption); omega)
    | ((with_reducible apply lm_iW); decide))
    refine lm_cI (lm_u49 (d := d + 6) true) ?_
    refine lm_iT (show ¬ (1 : Int32) = 0 by decide) ?_
    rw [show lm_u M1 203 4 (cond true 0 (Int32.ofInt 3)) = M1 by rw [← eM1]; exact lm_uu]
    exact k2 RR (k3 RR KK)
  rcases lm_l30c (sc := sc) (C := C) (d := d) (m := m3) (n := n2) (x := x) (s := s) (K := K) (U := U) (V := V) hs D3 E3 z4 (fun u hu => by rw [e3 208 (by decide) (by decide) (by decide)]; exact hK u (by omega)) (fun i hi => by rw [p1 331 (by decide) (by decide), g4 i hi]) (fun i hi => by rw [p1 330 (by decide) (by decide), g3 i hi]) p3 p4 with ⟨a, y, m4, n4, c4, q1, q2, q3, q4, q5, q6⟩ | ⟨y, m4, n4, c4, q1, q2, q3⟩
  · refine Or.inl ⟨a, y, m4, n4, run _ c4, fun r s1 s2 s3 s4 s5 s6 => by rw [q1 r s1 s2 s3 s4 s5 (by omega), e3 r s1 s4 s6], fun j j1 j2 j3 j4 j5 j6 j7 => by rw [(F3.tr q2).1 j j1 j2 j3 j4 j5, b0 j j1 j6 j7], (F3.tr q2).2, q3, fun j hj => by rw [q4 j hj, e3 214 (by decide) (by decide) (by decide)], q5, q6⟩
  · exact Or.inr ⟨y, m4, n4, run _ c4, fun r s1 s2 s3 s4 => by rw [q1 r s1 s2 s3 (by omega), e3 r s1 s2 s4], fun j j1 j2 j3 j4 j5 j6 j7 => by rw [(F3.tr q2).1 j j1 j2 j3 j4 j5, b0 j j1 j6 j7], (F3.tr q2).2, q3⟩
end LMSF
