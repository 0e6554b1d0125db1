/-! ===== dsaSign of the class: the attempt's end, the packet, the call ===== -/
/-- the packet's bytes -/
def lm_sig (C : lm_CX) (K U V : Nat → Int32) (s j t : Nat) : Nat := if t < lm_dsz s then lm_yb (lm_aC C K U V s j t) else if t < lm_dsz s + 32 * lm_dw s * lm_dl s then lm_pkB (fun i c => (lm_dg1 s : Int) - lm_aZ C K U V s j i c) (lm_dw s) (t - lm_dsz s) else if t < lm_dsz s + 32 * lm_dw s * lm_dl s + lm_do s then (lm_hs (lm_aH C K U V s j) (256 * lm_dk s)).2 (t - (lm_dsz s + 32 * lm_dw s * lm_dl s)) else (lm_hs (lm_aH C K U V s j) (256 * (t - (lm_dsz s + 32 * lm_dw s * lm_dl s + lm_do s) + 1))).1
theorem lm_pts_of {m m' : lm_MI} {p : Nat} {F : Nat → Int} (h : lm_pts m p F) (e : m' p = m p) : lm_pts m' p F := by
  unfold lm_pts at h ⊢
  rw [e]
  exact h
section LMEA
variable {xs : List Int32} {C : lm_CX} {d s j : Nat} {m : lm_MI} {n : lm_ML} {x : lm_H × Nat × Nat} {K : Nat → Int32}
theorem lm_u245 (hC : lm_Cok xs C) (hr : ln_rt m) (hx : lm_rom x) (hs : s ≤ 2) (h : lm_DC m s) (hz : ∀ k, k < 256 → m 77 k = Int32.ofInt (lm_zd k)) (hj : j + 7 ≤ 60000) (hA : ∀ i t, i < lm_dk s → t < lm_dl s → ∀ c, c < 256 → m (79 + (i * lm_dl s + t)) c = Int32.ofInt (lm_xAm C K i t c) ∧ 0 ≤ lm_xAm C K i t c ∧ lm_xAm C K i t c ≤ 8380416) (hS : ∀ t, t < lm_dl s + lm_dk s → lm_pts m (136 + t) (lm_zS K s t)) (hT : ∀ i, i < lm_dk s → lm_pts m (152 + i) (lm_zT K s i)) : ((lm_aB C K (m 189) (m 191) s j).1 = 256 ∧ lm_ag C K (m 189) (m 191) s j ∧ ∃ m' n', lm_cal (lm_sc xs) (d + 6) 245 [.ref 76, .int (Int32.ofNat j)] (lm_w m n x) = some (.ok (some (.int 1)), lm_w m' n' x) ∧ lm_fA m m' ∧ lm_fN m n m' n' ∧ (∀ t, t < lm_dl s → ∀ c, c < 256 → m' (161 + t) c = Int32.ofInt (lm_aZ C K (m 189) (m 191) s j t c)) ∧ (∀ t, t < lm_dsz s → m' 192 t = lm_aC C K (m 189) (m 191) s j t) ∧ (∀ t, t < lm_do s → lm_yb (m' 193 t) = (lm_hs (lm_aH C K (m 189) (m 191) s j) (256 * lm_dk s)).2 t) ∧ ∀ i, i < lm_dk s → lm_yb (m' 193 (lm_do s + i)) = (lm_hs (lm_aH C K (m 189) (m 191) s j) (256 * (i + 1))).1) ∨ ((lm_aB C K (m 189) (m 191) s j).1 = 256 ∧ ¬ lm_ag C K (m 189) (m 191) s j ∧ ∃ m' n', lm_cal (lm_sc xs) (d + 6) 245 [.ref 76, .int (Int32.ofNat j)] (lm_w m n x) = some (.ok (some (.int 0)), lm_w m' n' x) ∧ lm_fA m m' ∧ lm_fN m n m' n') ∨ ((lm_aB C K (m 189) (m 191) s j).1 ≠ 256 ∧ ∃ m' n', lm_cal (lm_sc xs) (d + 6) 245 [.ref 76, .int (Int32.ofNat j)] (lm_w m n x) = some (.error (lm_xp x), lm_w m' n' (lm_xx 15 x)) ∧ lm_fA m m' ∧ lm_fN m n m' n') := by
  have hkl := lm_dkl hs
  obtain ⟨m1, n1, a1, a2, a3, a4, a56⟩ := lm_l245d (xs := xs) (C := C) (K := K) (d := d) (m := m) (n := n) (x := x) (j := j) hC hr hx hs h hz hj hA
  by_cases cb : (lm_aB C K (m 189) (m 191) s j).1 = 256
  · rw [if_pos cb] at a56
    obtain ⟨a5, hB, run⟩ := a56
    have D1 : lm_DC m1 s := by unfold lm_DC; rw [a1 76 (by decide) (by decide)]; exact h
    have hz1 : ∀ k, k < 256 → m1 77 k = Int32.ofInt (lm_zd k) := fun k hk => by rw [a1 77 (by decide) (by decide)]; exact hz k hk
    rcases lm_u298 (xs := xs) (d := d) (m := m1) (n := n1) (x := x) (s := s) (Y := lm_aY C (m 189) s j) (Z := lm_aZ C K (m 189) (m 191) s j) (Bc := (lm_aB C K (m 189) (m 191) s j).2) (S := lm_zS K s) hs D1 hz1 (fun t ht c hc => ⟨a3 t ht c hc, by have := lm_aY_b (C := C) (U := m 189) (j := j) (t := t) (c := c) hs; omega⟩) hB (fun t ht => lm_pts_of (hS t (by omega)) (a1 _ (by omega) (by omega))) (fun t c => by unfold lm_aZ; rfl) with ⟨m2, c2, f2, z2⟩ | ⟨m2, c2, f2, t, c, ht, hc, z2⟩
    · have D2 : lm_DC m2 s := by unfold lm_DC; rw [f2 76 (by omega) (by decide)]; exact D1
      have hz2 : ∀ k, k < 256 → m2 77 k = Int32.ofInt (lm_zd k) := fun k hk => by rw [f2 77 (by omega) (by decide)]; exact hz1 k hk
      rcases lm_u299 (xs := xs) (d := d) (m := m2) (n := n1) (x := x) (s := s) (W := ln_aW C K (m 189) s j) (Rr := lm_aR C K (m 189) (m 191) s j) (Bc := (lm_aB C K (m 189) (m 191) s j).2) (S := lm_zS K s) hs D2 hz2 (fun i hi c hc => ⟨by rw [f2 _ (by omega) (by omega)]; exact a4 i hi c hc, lm_aW_b⟩) (lm_pts_of hB (f2 185 (by omega) (by decide))) (fun i hi => lm_pts_of (hS (lm_dl s + i) (by omega)) (by rw [f2 _ (by omega) (by omega), a1 _ (by omega) (by omega)])) (fun i c => by unfold lm_aR; rfl) with ⟨m3, c3, f3, z3⟩ | ⟨m3, c3, f3, i, c, hi, hc, z3⟩
      · have D3 : lm_DC m3 s := by unfold lm_DC; rw [f3 76 (by omega) (by decide)]; exact D2
        have hz3 : ∀ k, k < 256 → m3 77 k = Int32.ofInt (lm_zd k) := fun k hk => by rw [f3 77 (by omega) (by decide)]; exact hz2 k hk
        rcases lm_u300 (xs := xs) (d := d) (m := m3) (n := n1) (x := x) (s := s) (Rr := lm_aR C K (m 189) (m 191) s j) (D := lm_aD C K (m 189) (m 191) s j) (Bc := (lm_aB C K (m 189) (m 191) s j).2) (T := lm_zT K s) (h := lm_aH C K (m 189) (m 191) s j) hs D3 hz3 (fun i hi c hc => ⟨(z3 i hi c hc).1, lm_aR_b⟩) (lm_pts_of hB (by rw [f3 185 (by omega) (by decide), f2 185 (by omega) (by decide)])) (fun i hi => lm_pts_of (hT i hi) (by rw [f3 _ (by omega) (by omega), f2 _ (by omega) (by omega), a1 _ (by omega) (by omega)])) (fun i c => by unfold lm_aD; rfl) (by unfold lm_aH; rfl) with ⟨m4, c4, f4, z4, z5, z6, z7⟩ | ⟨m4, c4, f4, z4⟩
        · have fr : ∀ r, r ≠ 186 → r ≠ 193 → (r < 161 ∨ 167 < r) → (r < 177 ∨ 184 < r) → m4 r = m1 r := fun r q1 q2 q3 q4 => by rw [f4 r q1 q2, f3 r q4 q1, f2 r q3 q1]
          refine Or.inl ⟨cb, ⟨fun t ht c hc => (z2 t ht c hc).2, fun i hi c hc => (z3 i hi c hc).2, z4, z5⟩, m4, n1, run _ ?_, fun r q1 q2 => by rw [fr r (by omega) (by omega) (by omega) (by omega), a1 r q1 q2], a2.tr (.of (fr 11 (by decide) (by decide) (by decide) (by decide)) (fr 17 (by decide) (by decide) (by decide) (by decide))), fun t ht c hc => ?_, fun t ht => by rw [fr 192 (by decide) (by decide) (by decide) (by decide)]; exact a5 t ht, z6, z7⟩
          · clear z2 z3 z4 z6 z7 a3 a4 a5 hB hS hT hA
            repeat (first
    | ((with_reducible apply lm_sI); exact rfl)
    | ((with_reducible apply lm_sR); exact rfl)
    | ((with_reducible apply lm_sS); exact rfl; exact rfl)
    | ((with_reducible apply lm_sL); exact rfl)
    | ((with_reducible apply lm_sP); exact rfl; exact rfl)
    | ((with_reducible apply lm_sPL); exact rfl; exact rfl)
    | ((with_reducible apply lm_sAA); exact rfl; exact rfl)
    | ((with_reducible apply lm_sA); (first | exact rfl | assumption); omega)
    | ((with_reducible apply lm_sJ); (first | exact rfl | assumption); omega)
    | ((with_reducible apply lm_sB); (first | exact rfl | assumption); omega)
    | ((with_reducible apply lm_wA); (first | exact rfl | assumption); omega)
    | ((with_reducible apply lm_wJ); (first | exact rfl | assumption); omega)
    | ((with_reducible apply lm_wB); (first | exact rfl | assumption); omega)
    | ((with_reducible apply lm_sAl); (first | exact rfl | assumption); omega)
    | ((with_reducible apply lm_iW); decide))
            refine lm_cI c2 ?_
            refine lm_iF (show ¬ (1 : Int32) = 0 by decide) ?_
            repeat (first
    | ((with_reducible apply lm_sI); exact rfl)
    | ((with_reducible apply lm_sR); exact rfl)
    | ((with_reducible apply lm_sS); exact rfl; exact rfl)
    | ((with_reducible apply lm_sL); exact rfl)
    | ((with_reducible apply lm_sP); exact rfl; exact rfl)
    | ((with_reducible apply lm_sPL); exact rfl; exact rfl)
    | ((with_reducible apply lm_sAA); exact rfl; exact rfl)
    | ((with_reducible apply lm_sA); (first | exact rfl | assumption); omega)
    | ((with_reducible apply lm_sJ); (first | exact rfl | assumption); omega)
    | ((with_reducible apply lm_sB); (first | exact rfl | assumption); omega)
    | ((with_reducible apply lm_wA); (first | exact rfl | assumption); omega)
    | ((with_reducible apply lm_wJ); (first | exact rfl | assumption); omega)
    | ((with_reducible apply lm_wB); (first | exact rfl | assumption); omega)
    | ((with_reducible apply lm_sAl); (first | exact rfl | assumption); omega)
    | ((with_reducible apply lm_iW); decide))
            refine lm_cI c3 ?_
            refine lm_iF (show ¬ (1 : Int32) = 0 by decide) ?_
            repeat (first
    | ((with_reducible apply lm_sI); exact rfl)
    | ((with_reducible apply lm_sR); exact rfl)
    | ((with_reducible apply lm_sS); exact rfl; exact rfl)
    | ((with_reducible apply lm_sL); exact rfl)
    | ((with_reducible apply lm_sP); exact rfl; exact rfl)
    | ((with_reducible apply lm_sPL); exact rfl; exact rfl)
    | ((with_reducible apply lm_sAA); exact rfl; exact rfl)
    | ((with_reducible apply lm_sA); (first | exact rfl | assumption); omega)
    | ((with_reducible apply lm_sJ); (first | exact rfl | assumption); omega)
    | ((with_reducible apply lm_sB); (first | exact rfl | assumption); omega)
    | ((with_reducible apply lm_wA); (first | exact rfl | assumption); omega)
    | ((with_reducible apply lm_wJ); (first | exact rfl | assumption); omega)
    | ((with_reducible apply lm_wB); (first | exact rfl | assumption); omega)
    | ((with_reducible apply lm_sAl); (first | exact rfl | assumption); omega)
    | ((with_reducible apply lm_iW); decide))
            refine lm_cI c4 ?_
            refine lm_iF (show ¬ (1 : Int32) = 0 by decide) ?_
            exact lm_iW (by decide) rfl
          · rw [f4 _ (by omega) (by omega), f3 _ (by omega) (by omega)]
            exact (z2 t ht c hc).1
        · have fr : ∀ r, r ≠ 186 → r ≠ 193 → (r < 161 ∨ 167 < r) → (r < 177 ∨ 184 < r) → m4 r = m1 r := fun r q1 q2 q3 q4 => by rw [f4 r q1 q2, f3 r q4 q1, f2 r q3 q1]
          refine Or.inr (Or.inl ⟨cb, fun g => ?_, m4, n1, run _ ?_, fun r q1 q2 => by rw [fr r (by omega) (by omega) (by omega) (by omega), a1 r q1 q2], a2.tr (.of (fr 11 (by decide) (by decide) (by decide) (by decide)) (fr 17 (by decide) (by decide) (by decide) (by decide)))⟩)
          · rcases z4 with ⟨i, c, hi, hc, z4⟩ | z4
            · exact z4 (g.2.2.1 i hi c hc)
            · have := g.2.2.2
              omega
          · clear z2 z3 z4 a3 a4 a5 hB hS hT hA
            repeat (first
    | ((with_reducible apply lm_sI); exact rfl)
    | ((with_reducible apply lm_sR); exact rfl)
    | ((with_reducible apply lm_sS); exact rfl; exact rfl)
    | ((with_reducible apply lm_sL); exact rfl)
    | ((with_reducible apply lm_sP); exact rfl; exact rfl)
    | ((with_reducible apply lm_sPL); exact rfl; exact rfl)
    | ((with_reducible apply lm_sAA); exact rfl; exact rfl)
    | ((with_reducible apply lm_sA); (first | exact rfl | assumption); omega)
    | ((with_reducible apply lm_sJ); (first | exact rfl | assumption); omega)
    | ((with_reducible apply lm_sB); (first | exact rfl | assumption); omega)
    | ((with_reducible apply lm_wA); (first | exact rfl | assumption); omega)
    | ((with_reducible apply lm_wJ); (first | exact rfl | assumption); omega)
    | ((with_reducible apply lm_wB); (first | exact rfl | assumption); omega)
    | ((with_reducible apply lm_sAl); (first | exact rfl | assumption); omega)
    | ((with_reducible apply lm_iW); decide))
            refine lm_cI c2 ?_
            refine lm_iF (show ¬ (1 : Int32) = 0 by decide) ?_
            repeat (first
    | ((with_reducible apply lm_sI); exact rfl)
    | ((with_reducible apply lm_sR); exact rfl)
    | ((with_reducible apply lm_sS); exact rfl; exact rfl)
    | ((with_reducible apply lm_sL); exact rfl)
    | ((with_reducible apply lm_sP); exact rfl; exact rfl)
    | ((with_reducible apply lm_sPL); exact rfl; exact rfl)
    | ((with_reducible apply lm_sAA); exact rfl; exact rfl)
    | ((with_reducible apply lm_sA); (first | exact rfl | assumption); omega)
    | ((with_reducible apply lm_sJ); (first | exact rfl | assumption); omega)
    | ((with_reducible apply lm_sB); (first | exact rfl | assumption); omega)
    | ((with_reducible apply lm_wA); (first | exact rfl | assumption); omega)
    | ((with_reducible apply lm_wJ); (first | exact rfl | assumption); omega)
    | ((with_reducible apply lm_wB); (first | exact rfl | assumption); omega)
    | ((with_reducible apply lm_sAl); (first | exact rfl | assumption); omega)
    | ((with_reducible apply lm_iW); decide))
            refine lm_cI c3 ?_
            refine lm_iF (show ¬ (1 : Int32) = 0 by decide) ?_
            repeat (first
    | ((with_reducible apply lm_sI); exact rfl)
    | ((with_reducible apply lm_sR); exact rfl)
    | ((with_reducible apply lm_sS); exact rfl; exact rfl)
    | ((with_reducible apply lm_sL); exact rfl)
    | ((with_reducible apply lm_sP); exact rfl; exact rfl)
    | ((with_reducible apply lm_sPL); exact rfl; exact rfl)
    | ((with_reducible apply lm_sAA); exact rfl; exact rfl)
    | ((with_reducible apply lm_sA); (first | exact rfl | assumption); omega)
    | ((with_reducible apply lm_sJ); (first | exact rfl | assumption); omega)
    | ((with_reducible apply lm_sB); (first | exact rfl | assumption); omega)
    | ((with_reducible apply lm_wA); (first | exact rfl | assumption); omega)
    | ((with_reducible apply lm_wJ); (first | exact rfl | assumption); omega)
    | ((with_reducible apply lm_wB); (first | exact rfl | assumption); omega)
    | ((with_reducible apply lm_sAl); (first | exact rfl | assumption); omega)
    | ((with_reducible apply lm_iW); decide))
            refine lm_cI c4 ?_
            refine lm_iT (show (0 : Int32) = 0 by decide) ?_
            exact lm_iW (by decide) rfl
      · refine Or.inr (Or.inl ⟨cb, fun g => z3 (g.2.1 i hi c hc), m3, n1, run _ ?_, fun r q1 q2 => by rw [f3 r (by omega) (by omega), f2 r (by omega) (by omega), a1 r q1 q2], a2.tr (.of (by rw [f3 11 (by omega) (by decide), f2 11 (by omega) (by decide)]) (by rw [f3 17 (by omega) (by decide), f2 17 (by omega) (by decide)]))⟩)
        clear z2 a3 a4 a5 hB hS hT hA
        repeat (first
    | ((with_reducible apply lm_sI); exact rfl)
    | ((with_reducible apply lm_sR); exact rfl)
    | ((with_reducible apply lm_sS); exact rfl; exact rfl)
    | ((with_reducible apply lm_sL); exact rfl)
    | ((with_reducible apply lm_sP); exact rfl; exact rfl)
    | ((with_reducible apply lm_sPL); exact rfl; exact rfl)
    | ((with_reducible apply lm_sAA); exact rfl; exact rfl)
    | ((with_reducible apply lm_sA); (first | exact rfl | assumption); omega)
    | ((with_reducible apply lm_sJ); (first | exact rfl | assumption); omega)
    | ((with_reducible apply lm_sB); (first | exact rfl | assumption); omega)
    | ((with_reducible apply lm_wA); (first | exact rfl | assumption); omega)
    | ((with_reducible apply lm_wJ); (first | exact rfl | assumption); omega)
    | ((with_reducible apply lm_wB); (first | exact rfl | assumption); omega)
    | ((with_reducible apply lm_sAl); (first | exact rfl | assumption); omega)
    | ((with_reducible apply lm_iW); decide))
        refine lm_cI c2 ?_
        refine lm_iF (show ¬ (1 : Int32) = 0 by decide) ?_
        repeat (first
    | ((with_reducible apply lm_sI); exact rfl)
    | ((with_reducible apply lm_sR); exact rfl)
    | ((with_reducible apply lm_sS); exact rfl; exact rfl)
    | ((with_reducible apply lm_sL); exact rfl)
    | ((with_reducible apply lm_sP); exact rfl; exact rfl)
    | ((with_reducible apply lm_sPL); exact rfl; exact rfl)
    | ((with_reducible apply lm_sAA); exact rfl; exact rfl)
    | ((with_reducible apply lm_sA); (first | exact rfl | assumption); omega)
    | ((with_reducible apply lm_sJ); (first | exact rfl | assumption); omega)
    | ((with_reducible apply lm_sB); (first | exact rfl | assumption); omega)
    | ((with_reducible apply lm_wA); (first | exact rfl | assumption); omega)
    | ((with_reducible apply lm_wJ); (first | exact rfl | assumption); omega)
    | ((with_reducible apply lm_wB); (first | exact rfl | assumption); omega)
    | ((with_reducible apply lm_sAl); (first | exact rfl | assumption); omega)
    | ((with_reducible apply lm_iW); decide))
        refine lm_cI c3 ?_
        refine lm_iT (show (0 : Int32) = 0 by decide) ?_
        exact lm_iW (by decide) rfl
    · refine Or.inr (Or.inl ⟨cb, fun g => z2 (g.1 t ht c hc), m2, n1, run _ ?_, fun r q1 q2 => by rw [f2 r (by omega) (by omega), a1 r q1 q2], a2.tr (.of (f2 11 (by omega) (by decide)) (f2 17 (by omega) (by decide)))⟩)
      clear a3 a4 a5 hB hS hT hA
      repeat (first
    | ((with_reducible apply lm_sI); exact rfl)
    | ((with_reducible apply lm_sR); exact rfl)
    | ((with_reducible apply lm_sS); exact rfl; exact rfl)
    | ((with_reducible apply lm_sL); exact rfl)
    | ((with_reducible apply lm_sP); exact rfl; exact rfl)
    | ((with_reducible apply lm_sPL); exact rfl; exact rfl)
    | ((with_reducible apply lm_sAA); exact rfl; exact rfl)
    | ((with_reducible apply lm_sA); (first | exact rfl | assumption); omega)
    | ((with_reducible apply lm_sJ); (first | exact rfl | assumption); omega)
    | ((with_reducible apply lm_sB); (first | exact rfl | assumption); omega)
    | ((with_reducible apply lm_wA); (first | exact rfl | assumption); omega)
    | ((with_reducible apply lm_wJ); (first | exact rfl | assumption); omega)
    | ((with_reducible apply lm_wB); (first | exact rfl | assumption); omega)
    | ((with_reducible apply lm_sAl); (first | exact rfl | assumption); omega)
    | ((with_reducible apply lm_iW); decide))
      refine lm_cI c2 ?_
      refine lm_iT (show (0 : Int32) = 0 by decide) ?_
      exact lm_iW (by decide) rfl
  · rw [if_neg cb] at a56
    exact Or.inr (Or.inr ⟨cb, m1, n1, a56.2, a1, a2⟩)
/-- writePacket -/
theorem lm_u246 {Z : Nat → Nat → Int} (hs : s ≤ 2) (h : lm_DC m s) (hZ : ∀ t, t < lm_dl s → ∀ c, c < 256 → m (161 + t) c = Int32.ofInt (Z t c) ∧ -((lm_dg1 s - lm_be s : Nat) : Int) < Z t c ∧ Z t c < (lm_dg1 s - lm_be s : Nat)) : ∃ m', lm_cal (lm_sc xs) (d + 3) 246 [.ref 76, .ref 36] (lm_w m n x) = some (.ok none, lm_w m' n x) ∧ (∀ r, r ≠ 36 → r ≠ 37 → r ≠ 187 → m' r = m r) ∧ m' 36 1 = Int32.ofNat (lm_dps s) ∧ (∀ t, t < lm_dsz s → lm_yb (m' 37 t) = lm_yb (m 192 t)) ∧ (∀ t, t < 32 * lm_dw s * lm_dl s → lm_yb (m' 37 (lm_dsz s + t)) = lm_pkB (fun i c => (lm_dg1 s : Int) - Z i c) (lm_dw s) t) ∧ ∀ t, t < lm_do s + lm_dk s → lm_yb (m' 37 (lm_dsz s + 32 * lm_dw s * lm_dl s + t)) = lm_yb (m 193 t) := by
  have hkl := lm_dkl hs
  have hpar := lm_dpar s hs
  have hdl : ∀ t, t ≤ lm_dl s → 32 * lm_dw s * t ≤ 640 * 7 := fun t ht => Nat.mul_le_mul (by omega) (by omega)
  generalize eM0 : lm_cp m 37 0 192 0 (lm_dsz s) = M0
  have r0 : ∀ r, r ≠ 37 → M0 r = m r := fun r hr => by rw [← eM0, lm_cp_row hr]
  obtain ⟨m1, n1, ⟨en, g1, g2, g3⟩, k1⟩ := lm_lp (sc := lm_sc xs) (d := d + 2) (b := lm_dl s) (hs := lm_m246.2.2.2.2.1) (code := lm_reg lm_m246.2.2.2.2.2) (x := x) (fr := fun t => (25, [(0, .ref 76), (1, .ref 36), (2, .int (Int32.ofNat (lm_dsz s + 32 * lm_dw s * t))), (3, .int (Int32.ofNat t))], [])) (I := fun t m' n' => n' = n ∧ (∀ r, r ≠ 37 → r ≠ 187 → m' r = m r) ∧ (∀ u, u < lm_dsz s → m' 37 u = M0 37 u) ∧ ∀ u, u < 32 * lm_dw s * t → lm_yb (m' 37 (lm_dsz s + u)) = lm_pkB (fun i c => (lm_dg1 s : Int) - Z i c) (lm_dw s) u) (fun t ht m1 n1 ⟨en, g1, g2, g3⟩ => by
    have ha := hdl (t + 1) (by omega)
    rw [Nat.mul_succ] at ha
    have e76 : m1 76 = m 76 := g1 76 (by decide) (by decide)
    have u251 := lm_u251 (sc := lm_sc xs) (d := d + 1) (m := m1) (n := n1) (x := x) hs (by rw [e76]; exact h.1)
    obtain ⟨m2, c2, f2, o2, b2⟩ := lm_u235 (sc := lm_sc xs) (d := d) (n := n1) (x := x) (m := m1) (p := 161 + t) (q := 37) (v := 65536) (a := lm_dsz s + 32 * lm_dw s * t) (bits := lm_dw s) (B := (lm_dg1 s : Int)) (V := Z t) rfl (by decide) (by decide) (lm_arM7 t (by omega)).1 (by omega) (by omega) (by omega) (by omega) (fun c hc => by
      have hz := hZ t ht c hc
      exact ⟨by rw [g1 _ (by omega) (by omega)]; exact hz.1, by omega, by omega⟩)
    have u251' := lm_u251 (sc := lm_sc xs) (d := d + 1) (m := m2) (n := n1) (x := x) hs (by rw [f2 76 (by decide) (by decide), e76]; exact h.1)
    refine ⟨m2, n1, ⟨en, fun r q1 q2 => by rw [f2 r q2 q1, g1 r q1 q2], fun u hu => by rw [o2 u (by omega), g2 u hu], fun u hu => ?_⟩, fun R KK => lm_e246_25 ?_⟩
    · by_cases c0 : u < 32 * lm_dw s * t
      · rw [o2 _ (by omega)]; exact g3 u c0
      · rw [Nat.mul_succ] at hu
        have := b2 (u - 32 * lm_dw s * t) (by omega)
        rw [show lm_dsz s + 32 * lm_dw s * t + (u - 32 * lm_dw s * t) = lm_dsz s + u by omega] at this
        rw [this, show lm_pkB (fun i c => (lm_dg1 s : Int) - Z i c) (lm_dw s) u = lm_pkB (fun i c => (lm_dg1 s : Int) - Z i c) (lm_dw s) (32 * lm_dw s * t + (u - 32 * lm_dw s * t)) by rw [show 32 * lm_dw s * t + (u - 32 * lm_dw s * t) = u by omega], lm_pkB_at (by omega)]
    · clear g3 hZ
      unfold lm_q246_25
      repeat (first
    | ((with_reducible apply lm_sI); exact rfl)
    | ((with_reducible apply lm_sR); exact rfl)
    | ((with_reducible apply lm_sS); exact rfl; exact rfl)
    | ((with_reducible apply lm_sL); exact rfl)
    | ((with_reducible apply lm_sP); exact rfl; exact rfl)
    | ((with_reducible apply lm_sPL); exact rfl; exact rfl)
    | ((with_reducible apply lm_sAA); exact rfl; exact rfl)
    | ((with_reducible apply lm_sA); (first | exact rfl | assumption); omega)
    | ((with_reducible apply lm_sJ); (first | exact rfl | assumption); omega)
    | ((with_reducible apply lm_sB); (first | exact rfl | assumption); omega)
    | ((with_reducible apply lm_wA); (first | exact rfl | assumption); omega)
    | ((with_reducible apply lm_wJ); (first | exact rfl | assumption); omega)
    | ((with_reducible apply lm_wB); (first | exact rfl | assumption); omega)
    | ((with_reducible apply lm_sAl); (first | exact rfl | assumption); omega)
    | ((with_reducible apply lm_iW); decide))
      simp only [Nat.reduceDiv, Nat.reduceMod]
      rw [e76, h.2.2]
      refine lm_geF (by omega) (by omega) (by omega) ?_
      repeat (first
    | ((with_reducible apply lm_sI); exact rfl)
    | ((with_reducible apply lm_sR); exact rfl)
    | ((with_reducible apply lm_sS); exact rfl; exact rfl)
    | ((with_reducible apply lm_sL); exact rfl)
    | ((with_reducible apply lm_sP); exact rfl; exact rfl)
    | ((with_reducible apply lm_sPL); exact rfl; exact rfl)
    | ((with_reducible apply lm_sAA); exact rfl; exact rfl)
    | ((with_reducible apply lm_sA); (first | exact rfl | assumption); omega)
    | ((with_reducible apply lm_sJ); (first | exact rfl | assumption); omega)
    | ((with_reducible apply lm_sB); (first | exact rfl | assumption); omega)
    | ((with_reducible apply lm_wA); (first | exact rfl | assumption); omega)
    | ((with_reducible apply lm_wJ); (first | exact rfl | assumption); omega)
    | ((with_reducible apply lm_wB); (first | exact rfl | assumption); omega)
    | ((with_reducible apply lm_sAl); (first | exact rfl | assumption); omega)
    | ((with_reducible apply lm_iW); decide))
      simp only [Nat.reduceDiv, Nat.reduceMod]
      rw [e76, h.1]
      refine ln_tb11 hs ?_
      repeat (first
    | ((with_reducible apply lm_sI); exact rfl)
    | ((with_reducible apply lm_sR); exact rfl)
    | ((with_reducible apply lm_sS); exact rfl; exact rfl)
    | ((with_reducible apply lm_sL); exact rfl)
    | ((with_reducible apply lm_sP); exact rfl; exact rfl)
    | ((with_reducible apply lm_sPL); exact rfl; exact rfl)
    | ((with_reducible apply lm_sAA); exact rfl; exact rfl)
    | ((with_reducible apply lm_sA); (first | exact rfl | assumption); omega)
    | ((with_reducible apply lm_sJ); (first | exact rfl | assumption); omega)
    | ((with_reducible apply lm_sB); (first | exact rfl | assumption); omega)
    | ((with_reducible apply lm_wA); (first | exact rfl | assumption); omega)
    | ((with_reducible apply lm_wJ); (first | exact rfl | assumption); omega)
    | ((with_reducible apply lm_wB); (first | exact rfl | assumption); omega)
    | ((with_reducible apply lm_sAl); (first | exact rfl | assumption); omega)
    | ((with_reducible apply lm_iW); decide))
      refine lm_sAA rfl (lm_roM7 t (by omega)).1 ?_
      repeat (first
    | ((with_reducible apply lm_sI); exact rfl)
    | ((with_reducible apply lm_sR); exact rfl)
    | ((with_reducible apply lm_sS); exact rfl; exact rfl)
    | ((with_reducible apply lm_sL); exact rfl)
    | ((with_reducible apply lm_sP); exact rfl; exact rfl)
    | ((with_reducible apply lm_sPL); exact rfl; exact rfl)
    | ((with_reducible apply lm_sAA); exact rfl; exact rfl)
    | ((with_reducible apply lm_sA); (first | exact rfl | assumption); omega)
    | ((with_reducible apply lm_sJ); (first | exact rfl | assumption); omega)
    | ((with_reducible apply lm_sB); (first | exact rfl | assumption); omega)
    | ((with_reducible apply lm_wA); (first | exact rfl | assumption); omega)
    | ((with_reducible apply lm_wJ); (first | exact rfl | assumption); omega)
    | ((with_reducible apply lm_wB); (first | exact rfl | assumption); omega)
    | ((with_reducible apply lm_sAl); (first | exact rfl | assumption); omega)
    | ((with_reducible apply lm_iW); decide))
      refine lm_cI u251 ?_
      repeat (first
    | ((with_reducible apply lm_sI); exact rfl)
    | ((with_reducible apply lm_sR); exact rfl)
    | ((with_reducible apply lm_sS); exact rfl; exact rfl)
    | ((with_reducible apply lm_sL); exact rfl)
    | ((with_reducible apply lm_sP); exact rfl; exact rfl)
    | ((with_reducible apply lm_sPL); exact rfl; exact rfl)
    | ((with_reducible apply lm_sAA); exact rfl; exact rfl)
    | ((with_reducible apply lm_sA); (first | exact rfl | assumption); omega)
    | ((with_reducible apply lm_sJ); (first | exact rfl | assumption); omega)
    | ((with_reducible apply lm_sB); (first | exact rfl | assumption); omega)
    | ((with_reducible apply lm_wA); (first | exact rfl | assumption); omega)
    | ((with_reducible apply lm_wJ); (first | exact rfl | assumption); omega)
    | ((with_reducible apply lm_wB); (first | exact rfl | assumption); omega)
    | ((with_reducible apply lm_sAl); (first | exact rfl | assumption); omega)
    | ((with_reducible apply lm_iW); decide))
      rw [lm_oN (lm_dg1 s)]
      refine lm_cV c2 ?_
      repeat (first
    | ((with_reducible apply lm_sI); exact rfl)
    | ((with_reducible apply lm_sR); exact rfl)
    | ((with_reducible apply lm_sS); exact rfl; exact rfl)
    | ((with_reducible apply lm_sL); exact rfl)
    | ((with_reducible apply lm_sP); exact rfl; exact rfl)
    | ((with_reducible apply lm_sPL); exact rfl; exact rfl)
    | ((with_reducible apply lm_sAA); exact rfl; exact rfl)
    | ((with_reducible apply lm_sA); (first | exact rfl | assumption); omega)
    | ((with_reducible apply lm_sJ); (first | exact rfl | assumption); omega)
    | ((with_reducible apply lm_sB); (first | exact rfl | assumption); omega)
    | ((with_reducible apply lm_wA); (first | exact rfl | assumption); omega)
    | ((with_reducible apply lm_wJ); (first | exact rfl | assumption); omega)
    | ((with_reducible apply lm_wB); (first | exact rfl | assumption); omega)
    | ((with_reducible apply lm_sAl); (first | exact rfl | assumption); omega)
    | ((with_reducible apply lm_iW); decide))
      refine lm_cI u251' ?_
      rw [lm_K32, lm_om, lm_oo, lm_K1, lm_oo]
      rw [Nat.mul_succ, ← Nat.add_assoc] at KK
      exact KK) (lm_dl s) 0 (by omega) M0 n ⟨rfl, fun r q1 _ => r0 r q1, fun _ _ => rfl, fun u hu => absurd hu (by omega)⟩
  subst en
  have hdl' := hdl (lm_dl s) (by omega)
  generalize eM2 : lm_cp m1 37 (lm_dsz s + 32 * lm_dw s * lm_dl s) 193 0 (lm_do s + lm_dk s) = M2
  have r2 : ∀ r, r ≠ 37 → M2 r = m1 r := fun r hr => by rw [← eM2, lm_cp_row hr]
  have o2 : ∀ u, u < lm_dsz s + 32 * lm_dw s * lm_dl s → M2 37 u = m1 37 u := fun u hu => by rw [← eM2, lm_rc, if_neg (by omega)]
  have D2 : lm_DC M2 s := by unfold lm_DC; rw [r2 76 (by decide), g1 76 (by decide) (by decide)]; exact h
  have u248 := lm_u248 (xs := xs) (d := d) (m := M2) (n := n1) (x := x) hs D2
  refine ⟨lm_u M2 36 1 (Int32.ofNat (lm_dps s)), ?_, fun r q1 q2 q3 => by rw [lm_u_row q1, r2 r q2, g1 r q2 q3], lm_u_eq, fun t ht => ?_, fun t ht => ?_, fun t ht => ?_⟩
  · clear g3 hZ
    refine lm_cal_of (Y := lm_m246) rfl rfl (lm_e246_0 ?_)
    unfold lm_q246_0
    rw [lm_K0]
    repeat (first
    | ((with_reducible apply lm_sI); exact rfl)
    | ((with_reducible apply lm_sR); exact rfl)
    | ((with_reducible apply lm_sS); exact rfl; exact rfl)
    | ((with_reducible apply lm_sL); exact rfl)
    | ((with_reducible apply lm_sP); exact rfl; exact rfl)
    | ((with_reducible apply lm_sPL); exact rfl; exact rfl)
    | ((with_reducible apply lm_sAA); exact rfl; exact rfl)
    | ((with_reducible apply lm_sA); (first | exact rfl | assumption); omega)
    | ((with_reducible apply lm_sJ); (first | exact rfl | assumption); omega)
    | ((with_reducible apply lm_sB); (first | exact rfl | assumption); omega)
    | ((with_reducible apply lm_wA); (first | exact rfl | assumption); omega)
    | ((with_reducible apply lm_wJ); (first | exact rfl | assumption); omega)
    | ((with_reducible apply lm_wB); (first | exact rfl | assumption); omega)
    | ((with_reducible apply lm_sAl); (first | exact rfl | assumption); omega)
    | ((with_reducible apply lm_iW); decide))
    simp only [Nat.reduceDiv, Nat.reduceMod]
    rw [h.1]
    refine ln_tb13 hs ?_
    repeat (first
    | ((with_reducible apply lm_sI); exact rfl)
    | ((with_reducible apply lm_sR); exact rfl)
    | ((with_reducible apply lm_sS); exact rfl; exact rfl)
    | ((with_reducible apply lm_sL); exact rfl)
    | ((with_reducible apply lm_sP); exact rfl; exact rfl)
    | ((with_reducible apply lm_sPL); exact rfl; exact rfl)
    | ((with_reducible apply lm_sAA); exact rfl; exact rfl)
    | ((with_reducible apply lm_sA); (first | exact rfl | assumption); omega)
    | ((with_reducible apply lm_sJ); (first | exact rfl | assumption); omega)
    | ((with_reducible apply lm_sB); (first | exact rfl | assumption); omega)
    | ((with_reducible apply lm_wA); (first | exact rfl | assumption); omega)
    | ((with_reducible apply lm_wJ); (first | exact rfl | assumption); omega)
    | ((with_reducible apply lm_wB); (first | exact rfl | assumption); omega)
    | ((with_reducible apply lm_sAl); (first | exact rfl | assumption); omega)
    | ((with_reducible apply lm_iW); decide))
    refine lm_sCp (u := 1) rfl rfl (Or.inr rfl) (show 0 + lm_dsz s ≤ 64 by omega) (show 0 + lm_dsz s ≤ 65536 by omega) ?_
    rw [eM0]
    refine k1 _ (lm_e246_25 ?_)
    unfold lm_q246_25
    repeat (first
    | ((with_reducible apply lm_sI); exact rfl)
    | ((with_reducible apply lm_sR); exact rfl)
    | ((with_reducible apply lm_sS); exact rfl; exact rfl)
    | ((with_reducible apply lm_sL); exact rfl)
    | ((with_reducible apply lm_sP); exact rfl; exact rfl)
    | ((with_reducible apply lm_sPL); exact rfl; exact rfl)
    | ((with_reducible apply lm_sAA); exact rfl; exact rfl)
    | ((with_reducible apply lm_sA); (first | exact rfl | assumption); omega)
    | ((with_reducible apply lm_sJ); (first | exact rfl | assumption); omega)
    | ((with_reducible apply lm_sB); (first | exact rfl | assumption); omega)
    | ((with_reducible apply lm_wA); (first | exact rfl | assumption); omega)
    | ((with_reducible apply lm_wJ); (first | exact rfl | assumption); omega)
    | ((with_reducible apply lm_wB); (first | exact rfl | assumption); omega)
    | ((with_reducible apply lm_sAl); (first | exact rfl | assumption); omega)
    | ((with_reducible apply lm_iW); decide))
    simp only [Nat.reduceDiv, Nat.reduceMod]
    rw [g1 76 (by decide) (by decide), h.2.2]
    refine lm_geT (by omega) (by omega) (by omega) ?_
    repeat (first
    | ((with_reducible apply lm_sI); exact rfl)
    | ((with_reducible apply lm_sR); exact rfl)
    | ((with_reducible apply lm_sS); exact rfl; exact rfl)
    | ((with_reducible apply lm_sL); exact rfl)
    | ((with_reducible apply lm_sP); exact rfl; exact rfl)
    | ((with_reducible apply lm_sPL); exact rfl; exact rfl)
    | ((with_reducible apply lm_sAA); exact rfl; exact rfl)
    | ((with_reducible apply lm_sA); (first | exact rfl | assumption); omega)
    | ((with_reducible apply lm_sJ); (first | exact rfl | assumption); omega)
    | ((with_reducible apply lm_sB); (first | exact rfl | assumption); omega)
    | ((with_reducible apply lm_wA); (first | exact rfl | assumption); omega)
    | ((with_reducible apply lm_wJ); (first | exact rfl | assumption); omega)
    | ((with_reducible apply lm_wB); (first | exact rfl | assumption); omega)
    | ((with_reducible apply lm_sAl); (first | exact rfl | assumption); omega)
    | ((with_reducible apply lm_iW); decide))
    simp only [Nat.reduceDiv, Nat.reduceMod]
    rw [g1 76 (by decide) (by decide), h.1]
    refine ln_tb15 hs ?_
    repeat (first
    | ((with_reducible apply lm_sI); exact rfl)
    | ((with_reducible apply lm_sR); exact rfl)
    | ((with_reducible apply lm_sS); exact rfl; exact rfl)
    | ((with_reducible apply lm_sL); exact rfl)
    | ((with_reducible apply lm_sP); exact rfl; exact rfl)
    | ((with_reducible apply lm_sPL); exact rfl; exact rfl)
    | ((with_reducible apply lm_sAA); exact rfl; exact rfl)
    | ((with_reducible apply lm_sA); (first | exact rfl | assumption); omega)
    | ((with_reducible apply lm_sJ); (first | exact rfl | assumption); omega)
    | ((with_reducible apply lm_sB); (first | exact rfl | assumption); omega)
    | ((with_reducible apply lm_wA); (first | exact rfl | assumption); omega)
    | ((with_reducible apply lm_wJ); (first | exact rfl | assumption); omega)
    | ((with_reducible apply lm_wB); (first | exact rfl | assumption); omega)
    | ((with_reducible apply lm_sAl); (first | exact rfl | assumption); omega)
    | ((with_reducible apply lm_iW); decide))
    simp only [Nat.reduceDiv, Nat.reduceMod]
    rw [g1 76 (by decide) (by decide), h.2.1, lm_oo, lm_K0]
    refine lm_sCp (u := 1) rfl rfl (Or.inr rfl) (show 0 + (lm_do s + lm_dk s) ≤ 84 by omega) (show lm_dsz s + 32 * lm_dw s * lm_dl s + (lm_do s + lm_dk s) ≤ 65536 by omega) ?_
    rw [eM2]
    repeat (first
    | ((with_reducible apply lm_sI); exact rfl)
    | ((with_reducible apply lm_sR); exact rfl)
    | ((with_reducible apply lm_sS); exact rfl; exact rfl)
    | ((with_reducible apply lm_sL); exact rfl)
    | ((with_reducible apply lm_sP); exact rfl; exact rfl)
    | ((with_reducible apply lm_sPL); exact rfl; exact rfl)
    | ((with_reducible apply lm_sAA); exact rfl; exact rfl)
    | ((with_reducible apply lm_sA); (first | exact rfl | assumption); omega)
    | ((with_reducible apply lm_sJ); (first | exact rfl | assumption); omega)
    | ((with_reducible apply lm_sB); (first | exact rfl | assumption); omega)
    | ((with_reducible apply lm_wA); (first | exact rfl | assumption); omega)
    | ((with_reducible apply lm_wJ); (first | exact rfl | assumption); omega)
    | ((with_reducible apply lm_wB); (first | exact rfl | assumption); omega)
    | ((with_reducible apply lm_sAl); (first | exact rfl | assumption); omega)
    | ((with_reducible apply lm_iW); decide))
    refine lm_cI u248 ?_
    repeat (first
    | ((with_reducible apply lm_sI); exact rfl)
    | ((with_reducible apply lm_sR); exact rfl)
    | ((with_reducible apply lm_sS); exact rfl; exact rfl)
    | ((with_reducible apply lm_sL); exact rfl)
    | ((with_reducible apply lm_sP); exact rfl; exact rfl)
    | ((with_reducible apply lm_sPL); exact rfl; exact rfl)
    | ((with_reducible apply lm_sAA); exact rfl; exact rfl)
    | ((with_reducible apply lm_sA); (first | exact rfl | assumption); omega)
    | ((with_reducible apply lm_sJ); (first | exact rfl | assumption); omega)
    | ((with_reducible apply lm_sB); (first | exact rfl | assumption); omega)
    | ((with_reducible apply lm_wA); (first | exact rfl | assumption); omega)
    | ((with_reducible apply lm_wJ); (first | exact rfl | assumption); omega)
    | ((with_reducible apply lm_wB); (first | exact rfl | assumption); omega)
    | ((with_reducible apply lm_sAl); (first | exact rfl | assumption); omega)
    | ((with_reducible apply lm_iW); decide))
    rfl
  · rw [lm_u_row (by decide), o2 t (by omega), g2 t ht, ← eM0, lm_rc, if_pos ⟨rfl, by omega, by omega⟩, Nat.sub_zero, Nat.add_zero]
  · rw [lm_u_row (by decide), o2 _ (by omega)]
    exact g3 t ht
  · rw [lm_u_row (by decide), ← eM2, lm_rc, if_pos ⟨rfl, by omega, by omega⟩, Nat.add_sub_cancel_left, Nat.add_zero, g1 193 (by decide) (by decide)]
end LMEA
