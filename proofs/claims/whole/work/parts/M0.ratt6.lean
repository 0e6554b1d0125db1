/-! ===== an attempt of the reference, whole ===== -/
section LMSD
variable {sc : lm_H} {C : lm_CX} {d s j : Nat} {m m0 : lm_MI} {n n0 : lm_ML} {x : lm_H × Nat × Nat} {K U V : Nat → Int32}
set_option maxRecDepth 100000 in
theorem lm_u99 (hs : s ≤ 2) (hR : lm_RD C s m n) (hE : lm_RE s m) (hK : ∀ u, u < 32 → lm_b8 (m 208 u) = lm_b8 (K u)) (hU : ∀ i, i < 64 → lm_b8 (m 331 i) = lm_b8 (U i)) (hV : ∀ i, i < 64 → lm_b8 (m 330 i) = lm_b8 (V i)) (hj : j + 7 ≤ 60000) (hS : ∀ t, t < lm_dl s + lm_dk s → ∀ c, c < 256 → m (270 + t) c = Int32.ofInt (lm_zS K s t c)) (hT : ∀ i, i < lm_dk s → ∀ c, c < 256 → m (270 + (15 + i)) c = Int32.ofInt (lm_zT K s i c)) : (ln_sA C K s ∧ (lm_aB C K U V s j).1 = 256 ∧ lm_ag C K U V s j ∧ ∃ m' n', lm_cal sc (d + 7) 99 [.ref 203, .int (Int32.ofNat j)] (lm_w m n x) = some (.ok (some (.int 1)), lm_w m' n' x) ∧ lm_fR m m' ∧ lm_fB m n m' n' ∧ ∀ t, t < lm_dps s → lm_yb (m' 328 t) = lm_sig C K U V s j t) ∨ (ln_sA C K s ∧ (lm_aB C K U V s j).1 = 256 ∧ ¬ lm_ag C K U V s j ∧ ∃ m' n', lm_cal sc (d + 7) 99 [.ref 203, .int (Int32.ofNat j)] (lm_w m n x) = some (.ok (some (.int 0)), lm_w m' n' x) ∧ lm_fR m m' ∧ lm_fB m n m' n') ∨ ((¬ ln_sA C K s ∨ (lm_aB C K U V s j).1 ≠ 256) ∧ ∃ m' n', lm_cal sc (d + 7) 99 [.ref 203, .int (Int32.ofNat j)] (lm_w m n x) = some (.ok (some (.int (Int32.ofInt (-1)))), lm_w m' n' x) ∧ lm_fR m m' ∧ lm_fB m n m' n') := by
  have hkl := lm_dkl hs
  have hpar := lm_dpar s hs
  rcases lm_l99f (sc := sc) (C := C) (K := K) (U := U) (V := V) (d := d) (m := m) (n := n) (x := x) (s := s) (j := j) hs hR hE hK hU hV hj with ⟨sA, cb, m1, n1, a1, a2, a3, a4, a5, a6, k1⟩ | ⟨q, m1, n1, c1, a1, a2⟩
  · have E1 : lm_RE s m1 := hE.of fun j a b => a2.1 j (by omega) (by omega) (by omega) (by omega)
    have e42 : m1 203 42 = Int32.ofNat (lm_dl s) := by rw [a2.1 42 (by decide) (by decide) (by decide) (by decide)]; exact hR.2.2.1
    have e32 : m1 203 32 = Int32.ofNat (lm_dk s) := by rw [a2.1 32 (by decide) (by decide) (by decide) (by decide)]; exact hR.2.1
    have S1 : ∀ t, t < lm_dl s + lm_dk s → ∀ c, c < 256 → m1 (270 + t) c = Int32.ofInt (lm_zS K s t c) ∧ -8380417 ≤ lm_zS K s t c ∧ lm_zS K s t c ≤ 8380417 := fun t ht c hc => ⟨by rw [a1 _ (by omega) (by omega) (by omega) (by omega)]; exact hS t ht c hc, by have := lm_zS_b (K := K) (t := t) (c := c) hs; omega⟩
    have T1 : ∀ i, i < lm_dk s → ∀ c, c < 256 → m1 (270 + (15 + i)) c = Int32.ofInt (lm_zT K s i c) ∧ -8380417 ≤ lm_zT K s i c ∧ lm_zT K s i c ≤ 8380417 := fun i hi c hc => ⟨by rw [a1 _ (by omega) (by omega) (by omega) (by omega)]; exact hT i hi c hc, by have := lm_zT_b (K := K) (s := s) (i := i) (c := c); omega⟩
    rcases lm_l99h (sc := sc) (d := d) (m := m1) (n := n1) (x := x) (s := s) (Bc := (lm_aB C K U V s j).2) (S := lm_zS K s) (Y := lm_aY C U s j) (Z := lm_aZ C K U V s j) hs e42 E1 a6 (lm_aB_b hs) (fun t ht c hc => S1 t (by omega) c hc) (fun t ht c hc => ⟨a3 t ht c hc, by have := lm_aY_b (C := C) (U := U) (j := j) (t := t) (c := c) hs; generalize lm_aY C U s j t c = z at this; omega⟩) (fun t c => by unfold lm_aZ; rfl) with ⟨m2, n2, b1, b2, b3, k2⟩ | ⟨m2, n2, b1, b2, ⟨t, c, ht, hc, b3⟩, c2⟩
    · have e203 : m2 203 = m1 203 := b1 203 (by decide) (by decide)
      have E2 : lm_RE s m2 := E1.of fun j _ _ => by rw [e203]
      obtain ⟨m3, n3, ⟨d1, d2, d3⟩, k3⟩ := lm_l99k (sc := sc) (d := d) (m := m2) (n := n2) (x := x) (s := s) (Bc := (lm_aB C K U V s j).2) (S := lm_zS K s) (T := lm_zT K s) (W := ln_aW C K U s j) (Rr := lm_aR C K U V s j) (D := lm_aD C K U V s j) (h := lm_aH C K U V s j) hs (by rw [e203]; exact e32) (by rw [e203]; exact e42) E2 (fun c hc => by rw [b1 316 (by decide) (by decide)]; exact a6 c hc) (lm_aB_b hs) (fun i hi c hc => by rw [b1 _ (by omega) (by omega)]; exact S1 _ (by omega) c hc) (fun i hi c hc => by rw [b1 _ (by omega) (by omega)]; exact T1 i hi c hc) (fun i hi c hc => ⟨by rw [b1 _ (by omega) (by omega)]; exact a4 i hi c hc, lm_aW_b⟩) (fun i c => by unfold lm_aR; rfl) (fun i c => by unfold lm_aD; rfl) (by unfold lm_aH; rfl)
      have e3 : m3 203 = m1 203 := by rw [d1 203 (by decide) (by decide) (by decide), e203]
      have E3 : lm_RE s m3 := E1.of fun j _ _ => by rw [e3]
      have B3 : lm_fB m n m3 n3 := a2.tr ⟨fun j _ _ _ _ => by rw [e3], fun q _ _ _ _ _ g => by rw [d2 q g, b2 q g]⟩
      have fr3 : ∀ r, r ≠ 203 → r ≠ 227 → r ≠ 229 → (r < 293 ∨ 332 < r ∨ r = 330 ∨ r = 331) → m3 r = m r := fun r q1 q2 q3 q4 => by rw [d1 r (by omega) (by omega) (by omega), b1 r (by omega) (by omega), a1 r q1 q2 q3 q4]
      have hcnt := lm_hs_le (h := lm_aH C K U V s j) (256 * lm_dk s)
      have run : ∀ R, lm_if .ne (lm_bz (lm_Gd s (lm_aR C K U V s j) (lm_aD C K U V s j) (lm_dk s))) 0 (lm_ret (some (.int (Int32.ofInt 0)))) (lm_if .le (Int32.ofNat (lm_hs (lm_aH C K U V s j) (256 * lm_dk s)).1) (Int32.ofNat (lm_do s)) (lm_bind (lm_gR 4614 203) fun v3 => lm_bind (lm_gR 4566 203) fun v4 => lm_bind (lm_gI 4592 203) fun v5 => lm_bind (lm_asV (lm_cal sc (d + 6) 75 [.ref v3, .int (Int32.ofNat 0), .ref v4, .int (Int32.ofNat 0), .int v5])) fun _ => lm_bind (lm_putf 4496 203 (.int (Int32.ofNat 0))) fun _ => lm_rn sc (d + 6) lm_m99.2.2.2.2.1 (lm_reg lm_m99.2.2.2.2.2) (828, [(0, .ref 203), (5, .int (Int32.ofNat 0))], [])) (lm_ret (some (.int (Int32.ofInt 0))))) (lm_w m3 n3 x) = some R → lm_cal sc (d + 7) 99 [.ref 203, .int (Int32.ofNat j)] (lm_w m n x) = some R := by
        intro R KK
        clear a3 a4 a5 a6 b3 d3 S1 T1 hS hT
        refine k1 R (k2 R (lm_e99_347 ?_))
        unfold lm_q99_347
        repeat (first
    | ((with_reducible apply lm_sI); exact rfl)
    | ((with_reducible apply lm_sR); exact rfl)
    | ((with_reducible apply lm_sS); exact rfl; exact rfl)
    | ((with_reducible apply lm_sL); exact rfl)
    | ((with_reducible apply lm_sP); exact rfl; exact rfl)
    | ((with_reducible apply lm_sPL); exact rfl; exact rfl)
    | ((with_reducible apply lm_sAA); exact rfl; exact rfl)
    | ((with_reducible apply lm_sA); (first | exact rfl | assumption); omega)
    | ((with_reducible apply lm_sJ); (first | exact rfl | assumption); omega)
    | ((with_reducible apply lm_sB); (first | exact rfl | assumption); omega)
    | ((with_reducible apply lm_wA); (first | exact rfl | assumption); omega)
    | ((with_reducible apply lm_wJ); (first | exact rfl | assumption); omega)
    | ((with_reducible apply lm_wB); (first | exact rfl | assumption); omega)
    | ((with_reducible apply lm_sAl); (first | exact rfl | assumption); omega)
    | ((with_reducible apply lm_iW); decide))
        simp only [Nat.reduceDiv, Nat.reduceMod]
        rw [e203, e42]
        refine lm_geT (by omega) (by omega) (by omega) ?_
        have k3' := k3 R
        rw [show lm_bz (lm_Gd s (lm_aR C K U V s j) (lm_aD C K U V s j) 0) = 0 from lm_bz_t ⟨fun i' hi' => absurd hi' (by omega), fun i' hi' => absurd hi' (by omega)⟩] at k3'
        refine k3' (lm_e99_479 ?_)
        unfold lm_q99_479
        rw [lm_K0]
        repeat (first
    | ((with_reducible apply lm_sI); exact rfl)
    | ((with_reducible apply lm_sR); exact rfl)
    | ((with_reducible apply lm_sS); exact rfl; exact rfl)
    | ((with_reducible apply lm_sL); exact rfl)
    | ((with_reducible apply lm_sP); exact rfl; exact rfl)
    | ((with_reducible apply lm_sPL); exact rfl; exact rfl)
    | ((with_reducible apply lm_sAA); exact rfl; exact rfl)
    | ((with_reducible apply lm_sA); (first | exact rfl | assumption); omega)
    | ((with_reducible apply lm_sJ); (first | exact rfl | assumption); omega)
    | ((with_reducible apply lm_sB); (first | exact rfl | assumption); omega)
    | ((with_reducible apply lm_wA); (first | exact rfl | assumption); omega)
    | ((with_reducible apply lm_wJ); (first | exact rfl | assumption); omega)
    | ((with_reducible apply lm_wB); (first | exact rfl | assumption); omega)
    | ((with_reducible apply lm_sAl); (first | exact rfl | assumption); omega)
    | ((with_reducible apply lm_iW); decide))
        simp only [Nat.reduceDiv, Nat.reduceMod]
        rw [e3, e32]
        refine lm_geT (by omega) (by omega) (by omega) ?_
        by_cases cg : lm_Gd s (lm_aR C K U V s j) (lm_aD C K U V s j) (lm_dk s)
        · rw [lm_bz_t cg] at KK ⊢
          rw [lm_if_f (show ¬ lm_cmp .ne (0 : Int32) 0 from fun q => q rfl)] at KK
          refine lm_iF (show ¬ ¬ (0 : Int32) = 0 by decide) ?_
          repeat (first
    | ((with_reducible apply lm_sI); exact rfl)
    | ((with_reducible apply lm_sR); exact rfl)
    | ((with_reducible apply lm_sS); exact rfl; exact rfl)
    | ((with_reducible apply lm_sL); exact rfl)
    | ((with_reducible apply lm_sP); exact rfl; exact rfl)
    | ((with_reducible apply lm_sPL); exact rfl; exact rfl)
    | ((with_reducible apply lm_sAA); exact rfl; exact rfl)
    | ((with_reducible apply lm_sA); (first | exact rfl | assumption); omega)
    | ((with_reducible apply lm_sJ); (first | exact rfl | assumption); omega)
    | ((with_reducible apply lm_sB); (first | exact rfl | assumption); omega)
    | ((with_reducible apply lm_wA); (first | exact rfl | assumption); omega)
    | ((with_reducible apply lm_wJ); (first | exact rfl | assumption); omega)
    | ((with_reducible apply lm_wB); (first | exact rfl | assumption); omega)
    | ((with_reducible apply lm_sAl); (first | exact rfl | assumption); omega)
    | ((with_reducible apply lm_iW); decide))
          simp only [Nat.reduceDiv, Nat.reduceMod]
          rw [E3.2.2.2.1]
          exact KK
        · rw [lm_bz_f cg] at KK ⊢
          rw [lm_if_t (show lm_cmp .ne (1 : Int32) 0 from (by decide : ¬ (1 : Int32) = 0))] at KK
          exact lm_iT (show ¬ (1 : Int32) = 0 by decide) KK
      by_cases cg : lm_Gd s (lm_aR C K U V s j) (lm_aD C K U V s j) (lm_dk s)
      · by_cases cw : (lm_hs (lm_aH C K U V s j) (256 * lm_dk s)).1 ≤ lm_do s
        · have c4 := lm_u75 (sc := sc) (d := d + 5) (m := m3) (n := n3) (x := x) (q := 332) (p := 328) (v := 64) (w := 8192) (a := 0) (b := 0) (l := lm_dsz s) rfl rfl (by decide) (by omega) (by omega) (by decide) (by decide)
          generalize eM4 : lm_fil m3 328 0 (0 + lm_dsz s) (fun i => lm_b8 (m3 332 (0 + (i - 0)))) = M4 at c4
          have r4 : ∀ r, r ≠ 328 → M4 r = m3 r := fun r hr => by rw [← eM4, lm_fl_row hr]
          generalize eM5 : lm_u M4 203 24 (Int32.ofNat 0) = M5
          have r5 : ∀ r, r ≠ 203 → M5 r = M4 r := fun r hr => by rw [← eM5, lm_u_row hr]
          have f5 : ∀ j, j ≠ 24 → M5 203 j = m3 203 j := fun j hj => by rw [← eM5, lm_u_ne (fun g => hj g.2), r4 203 (by decide)]
          obtain ⟨m6, c6, g1, g2, g3, g4, g5, g6⟩ := lm_l99p (sc := sc) (d := d) (m := M5) (n := n3) (x := x) (s := s) (Z := lm_aZ C K U V s j) (h := lm_aH C K U V s j) hs (by rw [f5 32 (by decide), e3]; exact e32) (by rw [f5 42 (by decide), e3]; exact e42) (E3.of fun j _ _ => f5 j (by omega)) (by rw [← eM5, lm_u_eq]) (fun t ht c hc => by rw [r5 _ (by omega), r4 _ (by omega), d1 _ (by omega) (by omega) (by omega)]; exact b3 t ht c hc) (fun i hi c hc => by rw [r5 _ (by omega), r4 _ (by omega)]; exact d3 i hi c hc) cw
          refine Or.inl ⟨sA, cb, ⟨fun t ht c hc => (b3 t ht c hc).2, cg.1, cg.2, cw⟩, m6, n3, run _ ?_, fun r q1 q2 q3 q4 => by rw [g1 r q1 (by omega), r5 r q1, r4 r (by omega), fr3 r q1 q2 q3 q4], B3.tr (.p fun j hj => by rw [g2 j hj, f5 j hj]), fun t ht => ?_⟩
          · clear a3 a4 a5 a6 b3 d3 S1 T1 hS hT g3 g4 g5 g6
            rw [lm_bz_t cg]
            refine lm_iF (show ¬ ¬ (0 : Int32) = 0 by decide) ?_
            refine lm_leT (by omega) (by omega) cw ?_
            repeat (first
    | ((with_reducible apply lm_sI); exact rfl)
    | ((with_reducible apply lm_sR); exact rfl)
    | ((with_reducible apply lm_sS); exact rfl; exact rfl)
    | ((with_reducible apply lm_sL); exact rfl)
    | ((with_reducible apply lm_sP); exact rfl; exact rfl)
    | ((with_reducible apply lm_sPL); exact rfl; exact rfl)
    | ((with_reducible apply lm_sAA); exact rfl; exact rfl)
    | ((with_reducible apply lm_sA); (first | exact rfl | assumption); omega)
    | ((with_reducible apply lm_sJ); (first | exact rfl | assumption); omega)
    | ((with_reducible apply lm_sB); (first | exact rfl | assumption); omega)
    | ((with_reducible apply lm_wA); (first | exact rfl | assumption); omega)
    | ((with_reducible apply lm_wJ); (first | exact rfl | assumption); omega)
    | ((with_reducible apply lm_wB); (first | exact rfl | assumption); omega)
    | ((with_reducible apply lm_sAl); (first | exact rfl | assumption); omega)
    | ((with_reducible apply lm_iW); decide))
            simp only [Nat.reduceDiv, Nat.reduceMod]
            rw [E3.2.2.2.2.1]
            refine lm_cV c4 ?_
            repeat (first
    | ((with_reducible apply lm_sI); exact rfl)
    | ((with_reducible apply lm_sR); exact rfl)
    | ((with_reducible apply lm_sS); exact rfl; exact rfl)
    | ((with_reducible apply lm_sL); exact rfl)
    | ((with_reducible apply lm_sP); exact rfl; exact rfl)
    | ((with_reducible apply lm_sPL); exact rfl; exact rfl)
    | ((with_reducible apply lm_sAA); exact rfl; exact rfl)
    | ((with_reducible apply lm_sA); (first | exact rfl | assumption); omega)
    | ((with_reducible apply lm_sJ); (first | exact rfl | assumption); omega)
    | ((with_reducible apply lm_sB); (first | exact rfl | assumption); omega)
    | ((with_reducible apply lm_wA); (first | exact rfl | assumption); omega)
    | ((with_reducible apply lm_wJ); (first | exact rfl | assumption); omega)
    | ((with_reducible apply lm_wB); (first | exact rfl | assumption); omega)
    | ((with_reducible apply lm_sAl); (first | exact rfl | assumption); omega)
    | ((with_reducible apply lm_iW); decide))
            simp only [Nat.reduceDiv, Nat.reduceMod]
            rw [eM5]
            exact c6
          · rw [lm_dps_e] at ht
            unfold lm_sig
            by_cases t1 : t < lm_dsz s
            · rw [if_pos t1, g3 t t1, r5 328 (by decide), ← eM4, lm_fl_in (by omega), lm_yb_b8, Nat.zero_add, Nat.sub_zero, d1 332 (by decide) (by decide) (by decide), b1 332 (by decide) (by decide), a5 t t1]
            · rw [if_neg t1]
              by_cases t2 : t < lm_dsz s + 32 * lm_dw s * lm_dl s
              · rw [if_pos t2]
                have := g4 (t - lm_dsz s) (by omega)
                rw [show lm_dsz s + (t - lm_dsz s) = t by omega] at this
                exact this
              · rw [if_neg t2]
                by_cases t3 : t < lm_dsz s + 32 * lm_dw s * lm_dl s + lm_do s
                · rw [if_pos t3]
                  have := g5 (t - (lm_dsz s + 32 * lm_dw s * lm_dl s)) (by omega)
                  rw [show lm_dsz s + 32 * lm_dw s * lm_dl s + (t - (lm_dsz s + 32 * lm_dw s * lm_dl s)) = t by omega] at this
                  exact this
                · rw [if_neg t3]
                  have := g6 (t - (lm_dsz s + 32 * lm_dw s * lm_dl s + lm_do s)) (by omega)
                  rw [show lm_dsz s + 32 * lm_dw s * lm_dl s + lm_do s + (t - (lm_dsz s + 32 * lm_dw s * lm_dl s + lm_do s)) = t by omega] at this
                  exact this
        · refine Or.inr (Or.inl ⟨sA, cb, fun g => cw g.2.2.2, m3, n3, run _ ?_, fr3, B3⟩)
          rw [lm_bz_t cg]
          refine lm_iF (show ¬ ¬ (0 : Int32) = 0 by decide) ?_
          exact lm_leF (by omega) (by omega) cw rfl
      · refine Or.inr (Or.inl ⟨sA, cb, fun g => cg ⟨g.2.1, g.2.2.1⟩, m3, n3, run _ ?_, fr3, B3⟩)
        rw [lm_bz_f cg]
        exact lm_iT (show ¬ (1 : Int32) = 0 by decide) rfl
    · exact Or.inr (Or.inl ⟨sA, cb, fun g => b3 (g.1 t ht c hc), m2, n2, k1 _ c2, fun r q1 q2 q3 q4 => by rw [b1 r (by omega) (by omega), a1 r q1 q2 q3 q4], a2.tr ⟨fun j _ _ _ _ => by rw [b1 203 (by decide) (by decide)], fun q _ _ _ _ _ g => b2 q g⟩⟩)
  · exact Or.inr (Or.inr ⟨q, m1, n1, c1, a1, a2⟩)
end LMSD
