/-! ===== kemOpen of the reference: behind decrypt ===== -/
section LMRF
variable {sc : lm_H} {C : lm_CX} {d s l : Nat} {m : lm_MI} {n : lm_ML} {x : lm_H × Nat × Nat}
theorem lm_l26b (hs : s ≤ 2) (h : lm_RK0 C (s + 2) (lm_ke s) m n) (h34 : m 203 34 = Int32.ofNat (lm_ku s)) (h35 : m 203 35 = Int32.ofNat (lm_kv s)) (hR : ∀ j, j < 32 → lm_b8 (m 267 j) = lm_b8 (ln_oR (m 208) (m 211) s j)) (h4 : m 203 4 = 0) : (∃ m' n' b, lm_rn sc (d + 7) lm_m26.2.2.2.2.1 (lm_reg lm_m26.2.2.2.2.2) (425, [(0, .ref 203), (2, .int (Int32.ofNat (384 * (s + 2)))), (3, .int (Int32.ofNat (lm_kps s))), (5, .int (Int32.ofNat 256))], []) (lm_w m n x) = some (.ok (some (.int (lm_z b))), lm_w m' n' x) ∧ lm_kAll C (m 208) (384 * (s + 2) + 384 * (s + 2)) (s + 2) ∧ (∀ r, r ≠ 203 → r ≠ 212 → r ≠ 214 → r ≠ 227 → (r < 231 ∨ 267 < r) → m' r = m r) ∧ (∀ j, j ≠ 4 → j ≠ 18 → j ≠ 19 → j ≠ 20 → j ≠ 24 → m' 203 j = m 203 j) ∧ (∀ q, q ≠ 203 → q ≠ 223 → q ≠ 224 → q ≠ 225 → q ≠ 226 → q ≠ 230 → n' q = n q) ∧ m' 203 4 = 0 ∧ (∀ j, j ≠ 6 → m' 214 j = m 214 j) ∧ m' 214 6 = Int32.ofNat 32 ∧ (b = true ↔ ln_oE C (m 208) (m 211) s) ∧ ∀ j, j < 32 → lm_b8 (m' 212 j) = lm_b8 (cond b (ln_oP C (m 208) (m 211) s j) (ln_oJ C (m 208) (m 211) s j))) ∨ ∃ m' n', lm_rn sc (d + 7) lm_m26.2.2.2.2.1 (lm_reg lm_m26.2.2.2.2.2) (425, [(0, .ref 203), (2, .int (Int32.ofNat (384 * (s + 2)))), (3, .int (Int32.ofNat (lm_kps s))), (5, .int (Int32.ofNat 256))], []) (lm_w m n x) = some (.ok (some (.int 0)), lm_w m' n' x) ∧ ¬ lm_kAll C (m 208) (384 * (s + 2) + 384 * (s + 2)) (s + 2) ∧ (∀ r, r ≠ 203 → r ≠ 227 → (r < 231 ∨ 267 < r) → m' r = m r) ∧ (∀ j, j ≠ 4 → j ≠ 18 → j ≠ 19 → j ≠ 20 → j ≠ 24 → m' 203 j = m 203 j) ∧ (∀ q, q ≠ 203 → q ≠ 223 → q ≠ 224 → q ≠ 225 → q ≠ 226 → q ≠ 230 → n' q = n q) ∧ m' 203 4 = Int32.ofInt 3 := by
  obtain ⟨⟨z1, z2⟩, ⟨z3, z4⟩, z5, z6⟩ := lm_kusz hs
  have C0 := h.1
  obtain ⟨m4, n4, c4, s4, f4⟩ := lm_rS (sc := sc) (d := d + 5) (x := x) (k := 10) (G := lm_gw (ln_oR (m 208) (m 211) s) (fun i => m 208 (768 * (s + 2) + 32 + i))) C0 (by decide) (by decide)
  have C4 := f4.cx.trans C0
  obtain ⟨m5, n5, c5, s5, f5⟩ := lm_rA (sc := sc) (d := d + 3) (x := x) (k := 10) (q := 267) (v := 32) (a := 0) (l := 32) (L := 0) (G := lm_gw (ln_oR (m 208) (m 211) s) (fun i => m 208 (768 * (s + 2) + 32 + i))) C4 (by decide) (by decide) rfl (by decide) (by decide) (fun t ht => by
    rw [f4.1 267 (by decide) (by decide), Nat.zero_add, hR t ht, lm_gw, if_pos ht]) s4
  have C5 := f5.cx.trans C4
  rw [Nat.zero_add] at s5
  obtain ⟨m6, n6, c6, s6, f6⟩ := lm_rA (sc := sc) (d := d + 3) (x := x) (k := 10) (q := 208) (v := 65536) (a := 768 * (s + 2) + 32) (l := 32) (L := 32) (G := lm_gw (ln_oR (m 208) (m 211) s) (fun i => m 208 (768 * (s + 2) + 32 + i))) C5 (by decide) (by decide) rfl (by omega) (by decide) (fun t ht => by
    rw [f5.1 208 (by decide) (by decide), f4.1 208 (by decide) (by decide), lm_gw, if_neg (by omega), Nat.add_sub_cancel_left]) s5
  have C6 := f6.cx.trans C5
  obtain ⟨m7, n7, c7, f7⟩ := lm_rG (sc := sc) (d := d + 2) (x := x) (k := 10) (q := 263) (v := 256) (a := 64) (l := 64) C6 (by decide) (by decide) rfl (by decide) (by decide) (fun h => absurd h (by decide)) s6
  generalize eM7 : lm_fil m7 263 64 (64 + 64) (fun i => lm_Hm C 10 (lm_gw (ln_oR (m 208) (m 211) s) (fun i => m 208 (768 * (s + 2) + 32 + i))) (32 + 32) (i - 64)) = M7 at c7
  have r7 : ∀ r, r ≠ 263 → M7 r = m7 r := fun r hr => by rw [← eM7, lm_fl_row hr]
  have v7 : ∀ i, i < 64 → M7 263 (64 + i) = ln_oP C (m 208) (m 211) s i := fun i hi => by
    rw [← eM7, lm_fl_in (by omega), Nat.add_sub_cancel_left]
    rfl
  have fh7 : lm_fh m n m7 n7 := f4.tr (f5.tr (f6.tr f7))
  have rA : ∀ r, r ≠ 203 → r ≠ 227 → r ≠ 263 → M7 r = m r := fun r q1 q2 q3 => by rw [r7 r q3, fh7.1 r q1 q2]
  have fF : ∀ j, j ≠ 18 → j ≠ 19 → j ≠ 20 → M7 203 j = m 203 j := fun j j1 j2 j3 => by rw [r7 203 (by decide), fh7.2.1 j j1 j2 j3]
  have nF : ∀ q, q ≠ 203 → q ≠ 223 → q ≠ 224 → q ≠ 225 → q ≠ 226 → q ≠ 230 → n7 q = n q := fun q q1 q2 q3 q4 q5 _ => fh7.2.2 q q1 q2 q3 q4 q5
  have hB7 : lm_fB m n M7 n7 := ⟨fun j j1 j2 j3 _ => fF j j1 j2 j3, nF⟩
  have h7 : lm_RK0 C (s + 2) (lm_ke s) M7 n7 := h.keepB hB7 (rA 221 (by decide) (by decide) (by decide)) (rA 231 (by decide) (by decide) (by decide))
  have e208 : M7 208 = m 208 := rA 208 (by decide) (by decide) (by decide)
  have e267 : M7 267 = m 267 := rA 267 (by decide) (by decide) (by decide)
  have w32 : Int32.ofNat 2 * Int32.ofNat (384 * (s + 2)) + Int32.ofNat 32 = Int32.ofNat (768 * (s + 2) + 32) := by rw [lm_om, lm_oo, ← Nat.mul_assoc]
  have w64 : Int32.ofNat 2 * Int32.ofNat (384 * (s + 2)) + Int32.ofNat 64 = Int32.ofNat (768 * (s + 2) + 64) := by rw [lm_om, lm_oo, ← Nat.mul_assoc]
  rcases lm_u78 (sc := sc) (d := d) (x := x) (m := M7) (n := n7) (C := C) (P := ln_oP C (m 208) (m 211) s) (k := s + 2) (e := lm_ke s) (du := lm_ku s) (dv := lm_kv s) (q := 208) (v := 65536) (a := 384 * (s + 2)) (t := 267) (w := 32) (f := 96) h7 (lm_ke_2 hs) (by omega) (by omega) (by rw [fF 34 (by decide) (by decide) (by decide)]; exact h34) (by rw [fF 35 (by decide) (by decide) (by decide)]; exact h35) z1 z2 z3 z4 rfl (by decide) (by omega) (by omega) (by decide) rfl (by decide) (by decide) (by decide) (by decide) (fun i hi => by rw [show 96 + i = 64 + (32 + i) by omega, v7 _ (by omega)]) with ⟨m8, n8, c8, a8, b8, g8, v8⟩ | ⟨m8, n8, c8, a8, b8, g8⟩
  · rw [e208] at a8
    rw [e208, e267] at v8
    have v8' : ∀ j, j < lm_kps s → lm_yb (m8 266 j) = ln_oC C (m 208) (m 211) s j := fun j hj => by
      rw [v8 j (by omega)]
      exact lm_wct_ext (C := C) (K := m 208) (K' := m 208) (R := m 267) (R' := ln_oR (m 208) (m 211) s) (P := ln_oP C (m 208) (m 211) s) (a := 384 * (s + 2)) (a' := 384 * (s + 2)) hs (fun i _ => rfl) hR
    have u49b := lm_u49 (sc := sc) (d := d + 6) (m := m8) (n := n8) (x := x) (k := Int32.ofInt 3) true
    generalize eM9 : lm_u m8 203 4 (cond true 0 (Int32.ofInt 3)) = M9 at u49b
    have r9 : ∀ r, r ≠ 203 → M9 r = m8 r := fun r hr => by rw [← eM9, lm_u_row hr]
    have f9 : ∀ j, j ≠ 4 → M9 203 j = m8 203 j := fun j hj => by rw [← eM9, lm_u_ne (fun g => hj g.2)]
    have e4 : M9 203 4 = 0 := by rw [← eM9, lm_u_eq]; rfl
    have rr : ∀ r, r ≠ 203 → r ≠ 227 → (r < 231 ∨ 266 < r) → M9 r = m r := fun r q1 q2 q3 => by rw [r9 r q1, b8 r q1 q2 (by omega) (by omega) (by omega), rA r q1 q2 (by omega)]
    have ff : ∀ j, j ≠ 4 → j ≠ 18 → j ≠ 19 → j ≠ 20 → j ≠ 24 → M9 203 j = m 203 j := fun j j1 j2 j3 j4 j5 => by rw [f9 j j1, g8.1 j j2 j3 j4 j5, fF j j2 j3 j4]
    have nn : ∀ q, q ≠ 203 → q ≠ 223 → q ≠ 224 → q ≠ 225 → q ≠ 226 → q ≠ 230 → n8 q = n q := fun q q1 q2 q3 q4 q5 q6 => by rw [g8.2 q q1 q2 q3 q4 q5 q6, nF q q1 q2 q3 q4 q5 q6]
    have C9 : lm_cx M9 n8 = C := by
      rw [← C0]
      unfold lm_cx lm_tb
      rw [rr 221 (by decide) (by decide) (by decide), nn 215 (by decide) (by decide) (by decide) (by decide) (by decide) (by decide), nn 217 (by decide) (by decide) (by decide) (by decide) (by decide) (by decide), nn 218 (by decide) (by decide) (by decide) (by decide) (by decide) (by decide), nn 222 (by decide) (by decide) (by decide) (by decide) (by decide) (by decide), nn 216 (by decide) (by decide) (by decide) (by decide) (by decide) (by decide)]
    have e211 : M9 211 = m 211 := rr 211 (by decide) (by decide) (by decide)
    have e208' : M9 208 = m 208 := rr 208 (by decide) (by decide) (by decide)
    have c10 := lm_u80 (sc := sc) (d := d + 6) (m := M9) (n := n8) (x := x) (a := 0) (l := lm_kps s) (p := 266) (q := 211) (s := 8192) (r := 65536) (b := 0) rfl rfl (by omega) (by omega)
    have ev : lm_ev (fun t => lm_b8 (M9 266 (0 + t))) (fun t => lm_b8 (M9 211 (0 + t))) (lm_kps s) 0 = true ↔ ln_oE C (m 208) (m 211) s := by
      rw [lm_ev_t]
      unfold ln_oE
      constructor
      · intro h t ht
        have := h t ht
        simp only [Nat.zero_add] at this
        rw [e211, r9 266 (by decide)] at this
        rw [← v8' t ht, lm_b8_ne this]
      · intro h t ht
        simp only [Nat.zero_add]
        rw [e211, r9 266 (by decide)]
        exact lm_b8_eq (by rw [v8' t ht, h t ht])
    generalize lm_ev (fun t => lm_b8 (M9 266 (0 + t))) (fun t => lm_b8 (M9 211 (0 + t))) (lm_kps s) 0 = bb at *
    have fin : ∀ b (m3 : lm_MI) (n3 : lm_ML), lm_rn sc (d + 7) lm_m26.2.2.2.2.1 (lm_reg lm_m26.2.2.2.2.2) (655, [(0, .ref 203), (5, .int (lm_z b))], []) (lm_w m3 n3 x) = some (.ok (some (.int (lm_z b))), lm_w (lm_u m3 214 6 (Int32.ofNat 32)) n3 x) := by
      intro b m3 n3
      refine lm_e26_655 ?_
      unfold lm_q26_655
      rw [lm_K6, lm_K32]
      repeat (first
    | ((with_reducible apply lm_sI); exact rfl)
    | ((with_reducible apply lm_sR); exact rfl)
    | ((with_reducible apply lm_sS); exact rfl; exact rfl)
    | ((with_reducible apply lm_sL); exact rfl)
    | ((with_reducible apply lm_sP); exact rfl; exact rfl)
    | ((with_reducible apply lm_sPL); exact rfl; exact rfl)
    | ((with_reducible apply lm_sAA); exact rfl; exact rfl)
    | ((with_reducible apply lm_sA); (first | exact rfl | assumption); omega)
    | ((with_reducible apply lm_sJ); (first | exact rfl | assumption); omega)
    | ((with_reducible apply lm_sB); (first | exact rfl | assumption); omega)
    | ((with_reducible apply lm_wA); (first | exact rfl | assumption); omega)
    | ((with_reducible apply lm_wJ); (first | exact rfl | assumption); omega)
    | ((with_reducible apply lm_wB); (first | exact rfl | assumption); omega)
    | ((with_reducible apply lm_sAl); (first | exact rfl | assumption); omega)
    | ((with_reducible apply lm_iW); decide))
      cases b with
      | true => exact lm_iF (show ¬ (1 : Int32) = 0 by decide) rfl
      | false => exact lm_iT (show (0 : Int32) = 0 by decide) rfl
    cases bb with
    | true =>
      have c12 := lm_u75 (sc := sc) (d := d + 6) (m := M9) (n := n8) (x := x) (q := 263) (p := 212) (v := 256) (w := 65536) (a := 64) (b := 0) (l := 32) rfl rfl (by decide) (by decide) (by decide) (by decide) (by decide)
      generalize eM12 : lm_fil M9 212 0 (0 + 32) (fun i => lm_b8 (M9 263 (64 + (i - 0)))) = M12 at c12
      have r12 : ∀ r, r ≠ 212 → M12 r = M9 r := fun r hr => by rw [← eM12, lm_fl_row hr]
      refine Or.inl ⟨lm_u M12 214 6 (Int32.ofNat 32), n8, true, lm_e26_425 ?_, a8, fun r q1 q2 q3 q4 q5 => by rw [lm_u_row q3, r12 r q2, rr r q1 q4 (by omega)], fun j j1 j2 j3 j4 j5 => by rw [lm_u_row (by decide), r12 203 (by decide), ff j j1 j2 j3 j4 j5], nn, by rw [lm_u_row (by decide), r12 203 (by decide), e4], fun j hj => by rw [lm_u_ne (fun g => hj g.2), r12 214 (by decide), rr 214 (by decide) (by decide) (by decide)], lm_u_eq, ev, fun j hj => ?_⟩
      · unfold lm_q26_425
        rw [lm_K256, lm_K10, lm_K2, lm_K32, lm_K0, lm_K64, lm_K96, lm_K5, lm_K6, w32]
        refine lm_geT (by omega) (by omega) (by omega) ?_
        repeat (first
    | ((with_reducible apply lm_sI); exact rfl)
    | ((with_reducible apply lm_sR); exact rfl)
    | ((with_reducible apply lm_sS); exact rfl; exact rfl)
    | ((with_reducible apply lm_sL); exact rfl)
    | ((with_reducible apply lm_sP); exact rfl; exact rfl)
    | ((with_reducible apply lm_sPL); exact rfl; exact rfl)
    | ((with_reducible apply lm_sAA); exact rfl; exact rfl)
    | ((with_reducible apply lm_sA); (first | exact rfl | assumption); omega)
    | ((with_reducible apply lm_sJ); (first | exact rfl | assumption); omega)
    | ((with_reducible apply lm_sB); (first | exact rfl | assumption); omega)
    | ((with_reducible apply lm_wA); (first | exact rfl | assumption); omega)
    | ((with_reducible apply lm_wJ); (first | exact rfl | assumption); omega)
    | ((with_reducible apply lm_wB); (first | exact rfl | assumption); omega)
    | ((with_reducible apply lm_sAl); (first | exact rfl | assumption); omega)
    | ((with_reducible apply lm_iW); decide))
        refine lm_cV c4 ?_
        repeat (first
    | ((with_reducible apply lm_sI); exact rfl)
    | ((with_reducible apply lm_sR); exact rfl)
    | ((with_reducible apply lm_sS); exact rfl; exact rfl)
    | ((with_reducible apply lm_sL); exact rfl)
    | ((with_reducible apply lm_sP); exact rfl; exact rfl)
    | ((with_reducible apply lm_sPL); exact rfl; exact rfl)
    | ((with_reducible apply lm_sAA); exact rfl; exact rfl)
    | ((with_reducible apply lm_sA); (first | exact rfl | assumption); omega)
    | ((with_reducible apply lm_sJ); (first | exact rfl | assumption); omega)
    | ((with_reducible apply lm_sB); (first | exact rfl | assumption); omega)
    | ((with_reducible apply lm_wA); (first | exact rfl | assumption); omega)
    | ((with_reducible apply lm_wJ); (first | exact rfl | assumption); omega)
    | ((with_reducible apply lm_wB); (first | exact rfl | assumption); omega)
    | ((with_reducible apply lm_sAl); (first | exact rfl | assumption); omega)
    | ((with_reducible apply lm_iW); decide))
        refine lm_cV c5 ?_
        repeat (first
    | ((with_reducible apply lm_sI); exact rfl)
    | ((with_reducible apply lm_sR); exact rfl)
    | ((with_reducible apply lm_sS); exact rfl; exact rfl)
    | ((with_reducible apply lm_sL); exact rfl)
    | ((with_reducible apply lm_sP); exact rfl; exact rfl)
    | ((with_reducible apply lm_sPL); exact rfl; exact rfl)
    | ((with_reducible apply lm_sAA); exact rfl; exact rfl)
    | ((with_reducible apply lm_sA); (first | exact rfl | assumption); omega)
    | ((with_reducible apply lm_sJ); (first | exact rfl | assumption); omega)
    | ((with_reducible apply lm_sB); (first | exact rfl | assumption); omega)
    | ((with_reducible apply lm_wA); (first | exact rfl | assumption); omega)
    | ((with_reducible apply lm_wJ); (first | exact rfl | assumption); omega)
    | ((with_reducible apply lm_wB); (first | exact rfl | assumption); omega)
    | ((with_reducible apply lm_sAl); (first | exact rfl | assumption); omega)
    | ((with_reducible apply lm_iW); decide))
        refine lm_cV c6 ?_
        repeat (first
    | ((with_reducible apply lm_sI); exact rfl)
    | ((with_reducible apply lm_sR); exact rfl)
    | ((with_reducible apply lm_sS); exact rfl; exact rfl)
    | ((with_reducible apply lm_sL); exact rfl)
    | ((with_reducible apply lm_sP); exact rfl; exact rfl)
    | ((with_reducible apply lm_sPL); exact rfl; exact rfl)
    | ((with_reducible apply lm_sAA); exact rfl; exact rfl)
    | ((with_reducible apply lm_sA); (first | exact rfl | assumption); omega)
    | ((with_reducible apply lm_sJ); (first | exact rfl | assumption); omega)
    | ((with_reducible apply lm_sB); (first | exact rfl | assumption); omega)
    | ((with_reducible apply lm_wA); (first | exact rfl | assumption); omega)
    | ((with_reducible apply lm_wJ); (first | exact rfl | assumption); omega)
    | ((with_reducible apply lm_wB); (first | exact rfl | assumption); omega)
    | ((with_reducible apply lm_sAl); (first | exact rfl | assumption); omega)
    | ((with_reducible apply lm_iW); decide))
        refine lm_cV c7 ?_
        repeat (first
    | ((with_reducible apply lm_sI); exact rfl)
    | ((with_reducible apply lm_sR); exact rfl)
    | ((with_reducible apply lm_sS); exact rfl; exact rfl)
    | ((with_reducible apply lm_sL); exact rfl)
    | ((with_reducible apply lm_sP); exact rfl; exact rfl)
    | ((with_reducible apply lm_sPL); exact rfl; exact rfl)
    | ((with_reducible apply lm_sAA); exact rfl; exact rfl)
    | ((with_reducible apply lm_sA); (first | exact rfl | assumption); omega)
    | ((with_reducible apply lm_sJ); (first | exact rfl | assumption); omega)
    | ((with_reducible apply lm_sB); (first | exact rfl | assumption); omega)
    | ((with_reducible apply lm_wA); (first | exact rfl | assumption); omega)
    | ((with_reducible apply lm_wJ); (first | exact rfl | assumption); omega)
    | ((with_reducible apply lm_wB); (first | exact rfl | assumption); omega)
    | ((with_reducible apply lm_sAl); (first | exact rfl | assumption); omega)
    | ((with_reducible apply lm_iW); decide))
        refine lm_cI c8 ?_
        repeat (first
    | ((with_reducible apply lm_sI); exact rfl)
    | ((with_reducible apply lm_sR); exact rfl)
    | ((with_reducible apply lm_sS); exact rfl; exact rfl)
    | ((with_reducible apply lm_sL); exact rfl)
    | ((with_reducible apply lm_sP); exact rfl; exact rfl)
    | ((with_reducible apply lm_sPL); exact rfl; exact rfl)
    | ((with_reducible apply lm_sAA); exact rfl; exact rfl)
    | ((with_reducible apply lm_sA); (first | exact rfl | assumption); omega)
    | ((with_reducible apply lm_sJ); (first | exact rfl | assumption); omega)
    | ((with_reducible apply lm_sB); (first | exact rfl | assumption); omega)
    | ((with_reducible apply lm_wA); (first | exact rfl | assumption); omega)
    | ((with_reducible apply lm_wJ); (first | exact rfl | assumption); omega)
    | ((with_reducible apply lm_wB); (first | exact rfl | assumption); omega)
    | ((with_reducible apply lm_sAl); (first | exact rfl | assumption); omega)
    | ((with_reducible apply lm_iW); decide))
        refine lm_cI u49b ?_
        refine lm_iT (show ¬ (1 : Int32) = 0 by decide) ?_
        repeat (first
    | ((with_reducible apply lm_sI); exact rfl)
    | ((with_reducible apply lm_sR); exact rfl)
    | ((with_reducible apply lm_sS); exact rfl; exact rfl)
    | ((with_reducible apply lm_sL); exact rfl)
    | ((with_reducible apply lm_sP); exact rfl; exact rfl)
    | ((with_reducible apply lm_sPL); exact rfl; exact rfl)
    | ((with_reducible apply lm_sAA); exact rfl; exact rfl)
    | ((with_reducible apply lm_sA); (first | exact rfl | assumption); omega)
    | ((with_reducible apply lm_sJ); (first | exact rfl | assumption); omega)
    | ((with_reducible apply lm_sB); (first | exact rfl | assumption); omega)
    | ((with_reducible apply lm_wA); (first | exact rfl | assumption); omega)
    | ((with_reducible apply lm_wJ); (first | exact rfl | assumption); omega)
    | ((with_reducible apply lm_wB); (first | exact rfl | assumption); omega)
    | ((with_reducible apply lm_sAl); (first | exact rfl | assumption); omega)
    | ((with_reducible apply lm_iW); decide))
        refine lm_cI c10 ?_
        refine lm_iF (show ¬ (1 : Int32) = 0 by decide) ?_
        repeat (first
    | ((with_reducible apply lm_sI); exact rfl)
    | ((with_reducible apply lm_sR); exact rfl)
    | ((with_reducible apply lm_sS); exact rfl; exact rfl)
    | ((with_reducible apply lm_sL); exact rfl)
    | ((with_reducible apply lm_sP); exact rfl; exact rfl)
    | ((with_reducible apply lm_sPL); exact rfl; exact rfl)
    | ((with_reducible apply lm_sAA); exact rfl; exact rfl)
    | ((with_reducible apply lm_sA); (first | exact rfl | assumption); omega)
    | ((with_reducible apply lm_sJ); (first | exact rfl | assumption); omega)
    | ((with_reducible apply lm_sB); (first | exact rfl | assumption); omega)
    | ((with_reducible apply lm_wA); (first | exact rfl | assumption); omega)
    | ((with_reducible apply lm_wJ); (first | exact rfl | assumption); omega)
    | ((with_reducible apply lm_wB); (first | exact rfl | assumption); omega)
    | ((with_reducible apply lm_sAl); (first | exact rfl | assumption); omega)
    | ((with_reducible apply lm_iW); decide))
        refine lm_cV c12 ?_
        exact fin true M12 n8
      · rw [lm_u_row (by decide), ← eM12, lm_fl_in (by omega), lm_b8b8, Nat.sub_zero, r9 263 (by decide), b8 263 (by decide) (by decide) (by decide) (by decide) (by decide), v7 j (by omega)]
        rfl
    | false =>
      obtain ⟨k4, o4, d4, t4, j4⟩ := lm_rS (sc := sc) (d := d + 5) (x := x) (k := 12) (G := lm_gx (m 208) (m 211) (s + 2)) C9 (by decide) (by decide)
      have D4 := j4.cx.trans C9
      obtain ⟨k5, o5, d5, t5, j5⟩ := lm_rA (sc := sc) (d := d + 3) (x := x) (k := 12) (q := 208) (v := 65536) (a := 768 * (s + 2) + 64) (l := 32) (L := 0) (G := lm_gx (m 208) (m 211) (s + 2)) D4 (by decide) (by decide) rfl (by omega) (by decide) (fun t ht => by
        rw [j4.1 208 (by decide) (by decide), e208', Nat.zero_add, lm_gx, if_pos ht]) t4
      have D5 := j5.cx.trans D4
      rw [Nat.zero_add] at t5
      obtain ⟨k6, o6, d6, t6, j6⟩ := lm_rA (sc := sc) (d := d + 3) (x := x) (k := 12) (q := 211) (v := 65536) (a := 0) (l := lm_kps s) (L := 32) (G := lm_gx (m 208) (m 211) (s + 2)) D5 (by decide) (by decide) rfl (by omega) (by decide) (fun t ht => by
        rw [j5.1 211 (by decide) (by decide), j4.1 211 (by decide) (by decide), e211, Nat.zero_add, lm_gx, if_neg (by omega), Nat.add_sub_cancel_left]) t5
      have D6 := j6.cx.trans D5
      obtain ⟨k7, o7, d7, j7⟩ := lm_rG (sc := sc) (d := d + 2) (x := x) (k := 12) (q := 212) (v := 65536) (a := 0) (l := 32) D6 (by decide) (by decide) rfl (by decide) (by decide) (fun h => absurd h (by decide)) t6
      generalize eM12 : lm_fil k7 212 0 (0 + 32) (fun i => lm_Hm C 12 (lm_gx (m 208) (m 211) (s + 2)) (32 + lm_kps s) (i - 0)) = M12 at d7
      have r12 : ∀ r, r ≠ 212 → M12 r = k7 r := fun r hr => by rw [← eM12, lm_fl_row hr]
      have fh : lm_fh M9 n8 k7 o7 := j4.tr (j5.tr (j6.tr j7))
      refine Or.inl ⟨lm_u M12 214 6 (Int32.ofNat 32), o7, false, lm_e26_425 ?_, a8, fun r q1 q2 q3 q4 q5 => by rw [lm_u_row q3, r12 r q2, fh.1 r q1 q4, rr r q1 q4 (by omega)], fun j j1 j2 j3 j4 j5 => by rw [lm_u_row (by decide), r12 203 (by decide), fh.2.1 j j2 j3 j4, ff j j1 j2 j3 j4 j5], fun q q1 q2 q3 q4 q5 q6 => by rw [fh.2.2 q q1 q2 q3 q4 q5, nn q q1 q2 q3 q4 q5 q6], by rw [lm_u_row (by decide), r12 203 (by decide), fh.2.1 4 (by decide) (by decide) (by decide), e4], fun j hj => by rw [lm_u_ne (fun g => hj g.2), r12 214 (by decide), fh.1 214 (by decide) (by decide), rr 214 (by decide) (by decide) (by decide)], lm_u_eq, ev, fun j hj => ?_⟩
      · unfold lm_q26_425
        rw [lm_K256, lm_K10, lm_K2, lm_K32, lm_K0, lm_K64, lm_K96, lm_K5, lm_K6, lm_K12, w32, w64]
        refine lm_geT (by omega) (by omega) (by omega) ?_
        repeat (first
    | ((with_reducible apply lm_sI); exact rfl)
    | ((with_reducible apply lm_sR); exact rfl)
    | ((with_reducible apply lm_sS); exact rfl; exact rfl)
    | ((with_reducible apply lm_sL); exact rfl)
    | ((with_reducible apply lm_sP); exact rfl; exact rfl)
    | ((with_reducible apply lm_sPL); exact rfl; exact rfl)
    | ((with_reducible apply lm_sAA); exact rfl; exact rfl)
    | ((with_reducible apply lm_sA); (first | exact rfl | assumption); omega)
    | ((with_reducible apply lm_sJ); (first | exact rfl | assumption); omega)
    | ((with_reducible apply lm_sB); (first | exact rfl | assumption); omega)
    | ((with_reducible apply lm_wA); (first | exact rfl | assumption); omega)
    | ((with_reducible apply lm_wJ); (first | exact rfl | assumption); omega)
    | ((with_reducible apply lm_wB); (first | exact rfl | assumption); omega)
    | ((with_reducible apply lm_sAl); (first | exact rfl | assumption); omega)
    | ((with_reducible apply lm_iW); decide))
        refine lm_cV c4 ?_
        repeat (first
    | ((with_reducible apply lm_sI); exact rfl)
    | ((with_reducible apply lm_sR); exact rfl)
    | ((with_reducible apply lm_sS); exact rfl; exact rfl)
    | ((with_reducible apply lm_sL); exact rfl)
    | ((with_reducible apply lm_sP); exact rfl; exact rfl)
    | ((with_reducible apply lm_sPL); exact rfl; exact rfl)
    | ((with_reducible apply lm_sAA); exact rfl; exact rfl)
    | ((with_reducible apply lm_sA); (first | exact rfl | assumption); omega)
    | ((with_reducible apply lm_sJ); (first | exact rfl | assumption); omega)
    | ((with_reducible apply lm_sB); (first | exact rfl | assumption); omega)
    | ((with_reducible apply lm_wA); (first | exact rfl | assumption); omega)
    | ((with_reducible apply lm_wJ); (first | exact rfl | assumption); omega)
    | ((with_reducible apply lm_wB); (first | exact rfl | assumption); omega)
    | ((with_reducible apply lm_sAl); (first | exact rfl | assumption); omega)
    | ((with_reducible apply lm_iW); decide))
        refine lm_cV c5 ?_
        repeat (first
    | ((with_reducible apply lm_sI); exact rfl)
    | ((with_reducible apply lm_sR); exact rfl)
    | ((with_reducible apply lm_sS); exact rfl; exact rfl)
    | ((with_reducible apply lm_sL); exact rfl)
    | ((with_reducible apply lm_sP); exact rfl; exact rfl)
    | ((with_reducible apply lm_sPL); exact rfl; exact rfl)
    | ((with_reducible apply lm_sAA); exact rfl; exact rfl)
    | ((with_reducible apply lm_sA); (first | exact rfl | assumption); omega)
    | ((with_reducible apply lm_sJ); (first | exact rfl | assumption); omega)
    | ((with_reducible apply lm_sB); (first | exact rfl | assumption); omega)
    | ((with_reducible apply lm_wA); (first | exact rfl | assumption); omega)
    | ((with_reducible apply lm_wJ); (first | exact rfl | assumption); omega)
    | ((with_reducible apply lm_wB); (first | exact rfl | assumption); omega)
    | ((with_reducible apply lm_sAl); (first | exact rfl | assumption); omega)
    | ((with_reducible apply lm_iW); decide))
        refine lm_cV c6 ?_
        repeat (first
    | ((with_reducible apply lm_sI); exact rfl)
    | ((with_reducible apply lm_sR); exact rfl)
    | ((with_reducible apply lm_sS); exact rfl; exact rfl)
    | ((with_reducible apply lm_sL); exact rfl)
    | ((with_reducible apply lm_sP); exact rfl; exact rfl)
    | ((with_reducible apply lm_sPL); exact rfl; exact rfl)
    | ((with_reducible apply lm_sAA); exact rfl; exact rfl)
    | ((with_reducible apply lm_sA); (first | exact rfl | assumption); omega)
    | ((with_reducible apply lm_sJ); (first | exact rfl | assumption); omega)
    | ((with_reducible apply lm_sB); (first | exact rfl | assumption); omega)
    | ((with_reducible apply lm_wA); (first | exact rfl | assumption); omega)
    | ((with_reducible apply lm_wJ); (first | exact rfl | assumption); omega)
    | ((with_reducible apply lm_wB); (first | exact rfl | assumption); omega)
    | ((with_reducible apply lm_sAl); (first | exact rfl | assumption); omega)
    | ((with_reducible apply lm_iW); decide))
        refine lm_cV c7 ?_
        repeat (first
    | ((with_reducible apply lm_sI); exact rfl)
    | ((with_reducible apply lm_sR); exact rfl)
    | ((with_reducible apply lm_sS); exact rfl; exact rfl)
    | ((with_reducible apply lm_sL); exact rfl)
    | ((with_reducible apply lm_sP); exact rfl; exact rfl)
    | ((with_reducible apply lm_sPL); exact rfl; exact rfl)
    | ((with_reducible apply lm_sAA); exact rfl; exact rfl)
    | ((with_reducible apply lm_sA); (first | exact rfl | assumption); omega)
    | ((with_reducible apply lm_sJ); (first | exact rfl | assumption); omega)
    | ((with_reducible apply lm_sB); (first | exact rfl | assumption); omega)
    | ((with_reducible apply lm_wA); (first | exact rfl | assumption); omega)
    | ((with_reducible apply lm_wJ); (first | exact rfl | assumption); omega)
    | ((with_reducible apply lm_wB); (first | exact rfl | assumption); omega)
    | ((with_reducible apply lm_sAl); (first | exact rfl | assumption); omega)
    | ((with_reducible apply lm_iW); decide))
        refine lm_cI c8 ?_
        repeat (first
    | ((with_reducible apply lm_sI); exact rfl)
    | ((with_reducible apply lm_sR); exact rfl)
    | ((with_reducible apply lm_sS); exact rfl; exact rfl)
    | ((with_reducible apply lm_sL); exact rfl)
    | ((with_reducible apply lm_sP); exact rfl; exact rfl)
    | ((with_reducible apply lm_sPL); exact rfl; exact rfl)
    | ((with_reducible apply lm_sAA); exact rfl; exact rfl)
    | ((with_reducible apply lm_sA); (first | exact rfl | assumption); omega)
    | ((with_reducible apply lm_sJ); (first | exact rfl | assumption); omega)
    | ((with_reducible apply lm_sB); (first | exact rfl | assumption); omega)
    | ((with_reducible apply lm_wA); (first | exact rfl | assumption); omega)
    | ((with_reducible apply lm_wJ); (first | exact rfl | assumption); omega)
    | ((with_reducible apply lm_wB); (first | exact rfl | assumption); omega)
    | ((with_reducible apply lm_sAl); (first | exact rfl | assumption); omega)
    | ((with_reducible apply lm_iW); decide))
        refine lm_cI u49b ?_
        refine lm_iT (show ¬ (1 : Int32) = 0 by decide) ?_
        repeat (first
    | ((with_reducible apply lm_sI); exact rfl)
    | ((with_reducible apply lm_sR); exact rfl)
    | ((with_reducible apply lm_sS); exact rfl; exact rfl)
    | ((with_reducible apply lm_sL); exact rfl)
    | ((with_reducible apply lm_sP); exact rfl; exact rfl)
    | ((with_reducible apply lm_sPL); exact rfl; exact rfl)
    | ((with_reducible apply lm_sAA); exact rfl; exact rfl)
    | ((with_reducible apply lm_sA); (first | exact rfl | assumption); omega)
    | ((with_reducible apply lm_sJ); (first | exact rfl | assumption); omega)
    | ((with_reducible apply lm_sB); (first | exact rfl | assumption); omega)
    | ((with_reducible apply lm_wA); (first | exact rfl | assumption); omega)
    | ((with_reducible apply lm_wJ); (first | exact rfl | assumption); omega)
    | ((with_reducible apply lm_wB); (first | exact rfl | assumption); omega)
    | ((with_reducible apply lm_sAl); (first | exact rfl | assumption); omega)
    | ((with_reducible apply lm_iW); decide))
        refine lm_cI c10 ?_
        refine lm_iT (show (0 : Int32) = 0 by decide) ?_
        repeat (first
    | ((with_reducible apply lm_sI); exact rfl)
    | ((with_reducible apply lm_sR); exact rfl)
    | ((with_reducible apply lm_sS); exact rfl; exact rfl)
    | ((with_reducible apply lm_sL); exact rfl)
    | ((with_reducible apply lm_sP); exact rfl; exact rfl)
    | ((with_reducible apply lm_sPL); exact rfl; exact rfl)
    | ((with_reducible apply lm_sAA); exact rfl; exact rfl)
    | ((with_reducible apply lm_sA); (first | exact rfl | assumption); omega)
    | ((with_reducible apply lm_sJ); (first | exact rfl | assumption); omega)
    | ((with_reducible apply lm_sB); (first | exact rfl | assumption); omega)
    | ((with_reducible apply lm_wA); (first | exact rfl | assumption); omega)
    | ((with_reducible apply lm_wJ); (first | exact rfl | assumption); omega)
    | ((with_reducible apply lm_wB); (first | exact rfl | assumption); omega)
    | ((with_reducible apply lm_sAl); (first | exact rfl | assumption); omega)
    | ((with_reducible apply lm_iW); decide))
        refine lm_cV d4 ?_
        repeat (first
    | ((with_reducible apply lm_sI); exact rfl)
    | ((with_reducible apply lm_sR); exact rfl)
    | ((with_reducible apply lm_sS); exact rfl; exact rfl)
    | ((with_reducible apply lm_sL); exact rfl)
    | ((with_reducible apply lm_sP); exact rfl; exact rfl)
    | ((with_reducible apply lm_sPL); exact rfl; exact rfl)
    | ((with_reducible apply lm_sAA); exact rfl; exact rfl)
    | ((with_reducible apply lm_sA); (first | exact rfl | assumption); omega)
    | ((with_reducible apply lm_sJ); (first | exact rfl | assumption); omega)
    | ((with_reducible apply lm_sB); (first | exact rfl | assumption); omega)
    | ((with_reducible apply lm_wA); (first | exact rfl | assumption); omega)
    | ((with_reducible apply lm_wJ); (first | exact rfl | assumption); omega)
    | ((with_reducible apply lm_wB); (first | exact rfl | assumption); omega)
    | ((with_reducible apply lm_sAl); (first | exact rfl | assumption); omega)
    | ((with_reducible apply lm_iW); decide))
        refine lm_cV d5 ?_
        repeat (first
    | ((with_reducible apply lm_sI); exact rfl)
    | ((with_reducible apply lm_sR); exact rfl)
    | ((with_reducible apply lm_sS); exact rfl; exact rfl)
    | ((with_reducible apply lm_sL); exact rfl)
    | ((with_reducible apply lm_sP); exact rfl; exact rfl)
    | ((with_reducible apply lm_sPL); exact rfl; exact rfl)
    | ((with_reducible apply lm_sAA); exact rfl; exact rfl)
    | ((with_reducible apply lm_sA); (first | exact rfl | assumption); omega)
    | ((with_reducible apply lm_sJ); (first | exact rfl | assumption); omega)
    | ((with_reducible apply lm_sB); (first | exact rfl | assumption); omega)
    | ((with_reducible apply lm_wA); (first | exact rfl | assumption); omega)
    | ((with_reducible apply lm_wJ); (first | exact rfl | assumption); omega)
    | ((with_reducible apply lm_wB); (first | exact rfl | assumption); omega)
    | ((with_reducible apply lm_sAl); (first | exact rfl | assumption); omega)
    | ((with_reducible apply lm_iW); decide))
        refine lm_cV d6 ?_
        repeat (first
    | ((with_reducible apply lm_sI); exact rfl)
    | ((with_reducible apply lm_sR); exact rfl)
    | ((with_reducible apply lm_sS); exact rfl; exact rfl)
    | ((with_reducible apply lm_sL); exact rfl)
    | ((with_reducible apply lm_sP); exact rfl; exact rfl)
    | ((with_reducible apply lm_sPL); exact rfl; exact rfl)
    | ((with_reducible apply lm_sAA); exact rfl; exact rfl)
    | ((with_reducible apply lm_sA); (first | exact rfl | assumption); omega)
    | ((with_reducible apply lm_sJ); (first | exact rfl | assumption); omega)
    | ((with_reducible apply lm_sB); (first | exact rfl | assumption); omega)
    | ((with_reducible apply lm_wA); (first | exact rfl | assumption); omega)
    | ((with_reducible apply lm_wJ); (first | exact rfl | assumption); omega)
    | ((with_reducible apply lm_wB); (first | exact rfl | assumption); omega)
    | ((with_reducible apply lm_sAl); (first | exact rfl | assumption); omega)
    | ((with_reducible apply lm_iW); decide))
        refine lm_cV d7 ?_
        exact fin false M12 o7
      · rw [lm_u_row (by decide), ← eM12, lm_fl_in (by omega), Nat.sub_zero]
        rfl
  · rw [e208] at a8
    have u49b := lm_u49 (sc := sc) (d := d + 6) (m := m8) (n := n8) (x := x) (k := Int32.ofInt 3) false
    refine Or.inr ⟨lm_u m8 203 4 (Int32.ofInt 3), n8, lm_e26_425 ?_, a8, fun r q1 q2 q3 => ?_, fun j j1 j2 j3 j4 j5 => ?_, fun q q1 q2 q3 q4 q5 q6 => by rw [g8.2 q q1 q2 q3 q4 q5 q6, nF q q1 q2 q3 q4 q5 q6], lm_u_eq⟩
    · unfold lm_q26_425
      rw [lm_K256, lm_K10, lm_K2, lm_K32, lm_K0, lm_K64, lm_K96, lm_K5, w32]
      refine lm_geT (by omega) (by omega) (by omega) ?_
      repeat (first
    | ((with_reducible apply lm_sI); exact rfl)
    | ((with_reducible apply lm_sR); exact rfl)
    | ((with_reducible apply lm_sS); exact rfl; exact rfl)
    | ((with_reducible apply lm_sL); exact rfl)
    | ((with_reducible apply lm_sP); exact rfl; exact rfl)
    | ((with_reducible apply lm_sPL); exact rfl; exact rfl)
    | ((with_reducible apply lm_sAA); exact rfl; exact rfl)
    | ((with_reducible apply lm_sA); (first | exact rfl | assumption); omega)
    | ((with_reducible apply lm_sJ); (first | exact rfl | assumption); omega)
    | ((with_reducible apply lm_sB); (first | exact rfl | assumption); omega)
    | ((with_reducible apply lm_wA); (first | exact rfl | assumption); omega)
    | ((with_reducible apply lm_wJ); (first | exact rfl | assumption); omega)
    | ((with_reducible apply lm_wB); (first | exact rfl | assumption); omega)
    | ((with_reducible apply lm_sAl); (first | exact rfl | assumption); omega)
    | ((with_reducible apply lm_iW); decide))
      refine lm_cV c4 ?_
      repeat (first
    | ((with_reducible apply lm_sI); exact rfl)
    | ((with_reducible apply lm_sR); exact rfl)
    | ((with_reducible apply lm_sS); exact rfl; exact rfl)
    | ((with_reducible apply lm_sL); exact rfl)
    | ((with_reducible apply lm_sP); exact rfl; exact rfl)
    | ((with_reducible apply lm_sPL); exact rfl; exact rfl)
    | ((with_reducible apply lm_sAA); exact rfl; exact rfl)
    | ((with_reducible apply lm_sA); (first | exact rfl | assumption); omega)
    | ((with_reducible apply lm_sJ); (first | exact rfl | assumption); omega)
    | ((with_reducible apply lm_sB); (first | exact rfl | assumption); omega)
    | ((with_reducible apply lm_wA); (first | exact rfl | assumption); omega)
    | ((with_reducible apply lm_wJ); (first | exact rfl | assumption); omega)
    | ((with_reducible apply lm_wB); (first | exact rfl | assumption); omega)
    | ((with_reducible apply lm_sAl); (first | exact rfl | assumption); omega)
    | ((with_reducible apply lm_iW); decide))
      refine lm_cV c5 ?_
      repeat (first
    | ((with_reducible apply lm_sI); exact rfl)
    | ((with_reducible apply lm_sR); exact rfl)
    | ((with_reducible apply lm_sS); exact rfl; exact rfl)
    | ((with_reducible apply lm_sL); exact rfl)
    | ((with_reducible apply lm_sP); exact rfl; exact rfl)
    | ((with_reducible apply lm_sPL); exact rfl; exact rfl)
    | ((with_reducible apply lm_sAA); exact rfl; exact rfl)
    | ((with_reducible apply lm_sA); (first | exact rfl | assumption); omega)
    | ((with_reducible apply lm_sJ); (first | exact rfl | assumption); omega)
    | ((with_reducible apply lm_sB); (first | exact rfl | assumption); omega)
    | ((with_reducible apply lm_wA); (first | exact rfl | assumption); omega)
    | ((with_reducible apply lm_wJ); (first | exact rfl | assumption); omega)
    | ((with_reducible apply lm_wB); (first | exact rfl | assumption); omega)
    | ((with_reducible apply lm_sAl); (first | exact rfl | assumption); omega)
    | ((with_reducible apply lm_iW); decide))
      refine lm_cV c6 ?_
      repeat (first
    | ((with_reducible apply lm_sI); exact rfl)
    | ((with_reducible apply lm_sR); exact rfl)
    | ((with_reducible apply lm_sS); exact rfl; exact rfl)
    | ((with_reducible apply lm_sL); exact rfl)
    | ((with_reducible apply lm_sP); exact rfl; exact rfl)
    | ((with_reducible apply lm_sPL); exact rfl; exact rfl)
    | ((with_reducible apply lm_sAA); exact rfl; exact rfl)
    | ((with_reducible apply lm_sA); (first | exact rfl | assumption); omega)
    | ((with_reducible apply lm_sJ); (first | exact rfl | assumption); omega)
    | ((with_reducible apply lm_sB); (first | exact rfl | assumption); omega)
    | ((with_reducible apply lm_wA); (first | exact rfl | assumption); omega)
    | ((with_reducible apply lm_wJ); (first | exact rfl | assumption); omega)
    | ((with_reducible apply lm_wB); (first | exact rfl | assumption); omega)
    | ((with_reducible apply lm_sAl); (first | exact rfl | assumption); omega)
    | ((with_reducible apply lm_iW); decide))
      refine lm_cV c7 ?_
      repeat (first
    | ((with_reducible apply lm_sI); exact rfl)
    | ((with_reducible apply lm_sR); exact rfl)
    | ((with_reducible apply lm_sS); exact rfl; exact rfl)
    | ((with_reducible apply lm_sL); exact rfl)
    | ((with_reducible apply lm_sP); exact rfl; exact rfl)
    | ((with_reducible apply lm_sPL); exact rfl; exact rfl)
    | ((with_reducible apply lm_sAA); exact rfl; exact rfl)
    | ((with_reducible apply lm_sA); (first | exact rfl | assumption); omega)
    | ((with_reducible apply lm_sJ); (first | exact rfl | assumption); omega)
    | ((with_reducible apply lm_sB); (first | exact rfl | assumption); omega)
    | ((with_reducible apply lm_wA); (first | exact rfl | assumption); omega)
    | ((with_reducible apply lm_wJ); (first | exact rfl | assumption); omega)
    | ((with_reducible apply lm_wB); (first | exact rfl | assumption); omega)
    | ((with_reducible apply lm_sAl); (first | exact rfl | assumption); omega)
    | ((with_reducible apply lm_iW); decide))
      refine lm_cI c8 ?_
      repeat (first
    | ((with_reducible apply lm_sI); exact rfl)
    | ((with_reducible apply lm_sR); exact rfl)
    | ((with_reducible apply lm_sS); exact rfl; exact rfl)
    | ((with_reducible apply lm_sL); exact rfl)
    | ((with_reducible apply lm_sP); exact rfl; exact rfl)
    | ((with_reducible apply lm_sPL); exact rfl; exact rfl)
    | ((with_reducible apply lm_sAA); exact rfl; exact rfl)
    | ((with_reducible apply lm_sA); (first | exact rfl | assumption); omega)
    | ((with_reducible apply lm_sJ); (first | exact rfl | assumption); omega)
    | ((with_reducible apply lm_sB); (first | exact rfl | assumption); omega)
    | ((with_reducible apply lm_wA); (first | exact rfl | assumption); omega)
    | ((with_reducible apply lm_wJ); (first | exact rfl | assumption); omega)
    | ((with_reducible apply lm_wB); (first | exact rfl | assumption); omega)
    | ((with_reducible apply lm_sAl); (first | exact rfl | assumption); omega)
    | ((with_reducible apply lm_iW); decide))
      refine lm_cI u49b ?_
      refine lm_iF (show ¬ ¬ (0 : Int32) = 0 by decide) ?_
      rfl
    · rw [lm_u_row q1, b8 r q1 q2 (by omega) (by omega) (by omega), rA r q1 q2 (by omega)]
    · rw [lm_u_ne (fun g => j1 g.2), g8.1 j j2 j3 j4 j5, fF j j2 j3 j4]
end LMRF
