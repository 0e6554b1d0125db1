/-! ===== kemKeys of the reference: the end; one call of both ===== -/
theorem lm_kSn' {C : lm_CX} {P : Nat → Int32} {e i c : Nat} : Int32.ofInt (lm_kS C P 32 e i c) = Int32.ofNat (lm_kS C P 32 e i c).toNat ∧ (lm_kS C P 32 e i c).toNat < 2 ^ 12 := lm_kSn
section LMRZ
variable {sc : lm_H} {C : lm_CX} {d k e : Nat} {m : lm_MI} {n : lm_ML} {x : lm_H × Nat × Nat} {P R : Nat → Int32}
/-- the bytes put together -/
theorem lm_l22g (h : lm_RK0 C k e m n) (hk : k ≤ 4) (hP : ∀ i, i < 64 → lm_b8 (m 263 i) = lm_b8 (P i)) (hV : ∀ i c, i < k → c < 256 → m (233 + i) c = Int32.ofInt (lm_kS C P 32 e i c)) (hB : lm_PB m 265 0 (12 * (256 * k)) (lm_ts (lm_Fg (ln_kT C P e k)) 12)) (hR : ∀ t, t < 32 → lm_b8 (m 206 (32 + t)) = lm_b8 (R (32 + t))) : ∃ m' n', lm_rn sc (d + 6) lm_m22.2.2.2.2.1 (lm_reg lm_m22.2.2.2.2.2) (137, [(0, .ref 203), (2, .int (Int32.ofNat k))], []) (lm_w m n x) = some (.ok (some (.int (Int32.ofNat (768 * k + 96)))), lm_w m' n' x) ∧ (∀ r, r ≠ 203 → r ≠ 207 → r ≠ 208 → r ≠ 214 → r ≠ 227 → r ≠ 265 → m' r = m r) ∧ lm_fB m n m' n' ∧ (∀ j, j ≠ 1 → j ≠ 2 → m' 214 j = m 214 j) ∧ m' 214 1 = Int32.ofNat (384 * k + 32) ∧ m' 214 2 = Int32.ofNat (768 * k + 96) ∧ (∀ j, j < 384 * k + 32 → lm_yb (m' 207 j) = lm_pub C P e k j) ∧ ∀ j, j < 768 * k + 96 → lm_yb (m' 208 j) = lm_sec C P R e k j := by
  have c1 := lm_u75 (sc := sc) (d := d + 5) (m := m) (n := n) (x := x) (q := 263) (p := 265) (v := 256) (w := 65536) (a := 0) (b := 384 * k) (l := 32) rfl rfl (by decide) (by decide) (by omega) (by decide) (by decide)
  generalize eM1 : lm_fil m 265 (384 * k) (384 * k + 32) (fun i => lm_b8 (m 263 (0 + (i - 384 * k)))) = M1 at c1
  have r1 : ∀ r, r ≠ 265 → M1 r = m r := fun r hr => by rw [← eM1, lm_fl_row hr]
  have v1 : ∀ j, j < 384 * k + 32 → lm_yb (M1 265 j) = lm_pub C P e k j := fun j hj => by
    unfold lm_pub
    by_cases c : j < 384 * k
    · rw [if_pos c, ← eM1, lm_fl_out (by omega), ← lm_pkB_g (by decide)]
      have := lm_PB_yb hB (j := j) (by omega)
      rw [Nat.zero_add] at this
      exact this
    · rw [if_neg c, ← eM1, lm_fl_in (by omega), lm_yb_b8, Nat.zero_add]
      exact lm_b8_ne (hP _ (by omega))
  have c2 := lm_u75 (sc := sc) (d := d + 5) (m := M1) (n := n) (x := x) (q := 265) (p := 207) (v := 65536) (w := 65536) (a := 0) (b := 0) (l := 384 * k + 32) rfl rfl (by decide) (by omega) (by omega) (by decide) (by decide)
  generalize eM2 : lm_fil M1 207 0 (0 + (384 * k + 32)) (fun i => lm_b8 (M1 265 (0 + (i - 0)))) = M2 at c2
  have r2 : ∀ r, r ≠ 207 → M2 r = M1 r := fun r hr => by rw [← eM2, lm_fl_row hr]
  have v2 : ∀ j, j < 384 * k + 32 → lm_yb (M2 207 j) = lm_pub C P e k j := fun j hj => by
    rw [← eM2, lm_fl_in (by omega), lm_yb_b8, Nat.zero_add, Nat.sub_zero]
    exact v1 j hj
  generalize eM3 : lm_u (lm_u M2 214 1 (Int32.ofNat (384 * k + 32))) 203 24 (Int32.ofNat 0) = M3
  have r3 : ∀ r, r ≠ 203 → r ≠ 214 → M3 r = M2 r := fun r q1 q2 => by rw [← eM3, lm_u_row q1, lm_u_row q2]
  have f3 : ∀ j, j ≠ 24 → M3 203 j = m 203 j := fun j hj => by rw [← eM3, lm_u_ne (fun g => hj g.2), lm_u_row (by decide), r2 203 (by decide), r1 203 (by decide)]
  have k3 : M3 203 32 = Int32.ofNat k := by rw [f3 32 (by decide)]; exact h.2.1
  obtain ⟨m4, ⟨a1, a2, a3, a4⟩, k4⟩ := lm_l22e (sc := sc) (d := d) (n := n) (x := x) (m := M3) (k := k) (p := 384 * k + 32) (F := fun i => lm_kS C P 32 e i) hk k3 (fun i c hi hc => by
    rw [r3 _ (by omega) (by omega), r2 _ (by omega), r1 _ (by omega), hV i c hi hc]
    exact lm_kSn) (by rw [← eM3, lm_u_eq])
  have k44 : m4 203 32 = Int32.ofNat k := (a2 32 (by decide)).trans k3
  have e265 : m4 265 = M1 265 := by rw [a1 265 (by decide) (by decide), r3 265 (by decide) (by decide), r2 265 (by decide)]
  have c5 := lm_u75 (sc := sc) (d := d + 5) (m := m4) (n := n) (x := x) (q := 265) (p := 208) (v := 65536) (w := 65536) (a := 0) (b := 384 * k) (l := 384 * k + 32) rfl rfl (by decide) (by omega) (by omega) (by decide) (by decide)
  generalize eM5 : lm_fil m4 208 (384 * k) (384 * k + (384 * k + 32)) (fun i => lm_b8 (m4 265 (0 + (i - 384 * k)))) = M5 at c5
  have r5 : ∀ r, r ≠ 208 → M5 r = m4 r := fun r hr => by rw [← eM5, lm_fl_row hr]
  have fr5 : ∀ r, r ≠ 203 → r ≠ 207 → r ≠ 208 → r ≠ 214 → r ≠ 265 → M5 r = m r := fun r q1 q2 q3 q4 q5 => by rw [r5 r q3, a1 r q1 q3, r3 r q1 q4, r2 r q2, r1 r q5]
  have f5 : ∀ j, j ≠ 24 → M5 203 j = m 203 j := fun j hj => by rw [r5 203 (by decide), a2 j hj, f3 j hj]
  have B5 : lm_fB m n M5 n := .p f5
  have C5 : lm_cx M5 n = C := (B5.cx (fr5 221 (by decide) (by decide) (by decide) (by decide) (by decide))).trans h.1
  obtain ⟨m6, n6, c6, s6, f6⟩ := lm_rS (sc := sc) (d := d + 4) (x := x) (k := 8) (G := ln_gp (lm_pub C P e k)) C5 (by decide) (by decide)
  have C6 := f6.cx.trans C5
  obtain ⟨m7, n7, c7, s7, f7⟩ := lm_rA (sc := sc) (d := d + 2) (x := x) (k := 8) (q := 265) (v := 65536) (a := 0) (l := 384 * k + 32) (L := 0) (G := ln_gp (lm_pub C P e k)) C6 (by decide) (by decide) rfl (by omega) (by decide) (fun t ht => by
    rw [f6.1 265 (by decide) (by decide), r5 265 (by decide), e265, Nat.zero_add]
    exact lm_gp_yb (v1 t ht) lm_pub_lt) s6
  have C7 := f7.cx.trans C6
  rw [Nat.zero_add] at s7
  obtain ⟨m8, n8, c8, f8⟩ := lm_rG (sc := sc) (d := d + 1) (x := x) (k := 8) (q := 208) (v := 65536) (a := 384 * k + (384 * k + 32)) (l := 32) C7 (by decide) (by decide) rfl (by omega) (by decide) (fun h => absurd h (by decide)) s7
  have fh : lm_fh M5 n m8 n8 := f6.tr (f7.tr f8)
  generalize eM9 : lm_fil m8 208 (384 * k + (384 * k + 32)) (384 * k + (384 * k + 32) + 32) (fun i => lm_Hm C 8 (ln_gp (lm_pub C P e k)) (384 * k + 32) (i - (384 * k + (384 * k + 32)))) = M9 at c8
  have r9 : ∀ r, r ≠ 208 → M9 r = m8 r := fun r hr => by rw [← eM9, lm_fl_row hr]
  have c10 := lm_u75 (sc := sc) (d := d + 5) (m := M9) (n := n8) (x := x) (q := 206) (p := 208) (v := 65536) (w := 65536) (a := 32) (b := 384 * k + (384 * k + 32) + 32) (l := 32) rfl rfl (by decide) (by decide) (by omega) (by decide) (by decide)
  generalize eM10 : lm_fil M9 208 (384 * k + (384 * k + 32) + 32) (384 * k + (384 * k + 32) + 32 + 32) (fun i => lm_b8 (M9 206 (32 + (i - (384 * k + (384 * k + 32) + 32))))) = M10 at c10
  have r10 : ∀ r, r ≠ 208 → M10 r = M9 r := fun r hr => by rw [← eM10, lm_fl_row hr]
  have frA : ∀ r, r ≠ 203 → r ≠ 207 → r ≠ 208 → r ≠ 214 → r ≠ 227 → r ≠ 265 → M10 r = m r := fun r q1 q2 q3 q4 q5 q6 => by rw [r10 r q3, r9 r q3, fh.1 r q1 q5, fr5 r q1 q2 q3 q4 q6]
  have e214 : M10 214 = M3 214 := by rw [r10 214 (by decide), r9 214 (by decide), fh.1 214 (by decide) (by decide), r5 214 (by decide), a1 214 (by decide) (by decide)]
  have v214 : ∀ j, j ≠ 1 → M3 214 j = m 214 j := fun j hj => by rw [← eM3, lm_u_row (by decide), lm_u_ne (fun g => hj g.2), r2 214 (by decide), r1 214 (by decide)]
  have k8 : ∀ M : lm_MI, (∀ j, j ≠ 18 → j ≠ 19 → j ≠ 20 → M 203 j = M5 203 j) → M 203 32 = Int32.ofNat k := fun M g => by rw [g 32 (by decide) (by decide) (by decide), f5 32 (by decide)]; exact h.2.1
  refine ⟨lm_u M10 214 2 (Int32.ofNat (768 * k + 96)), n8, ?_, fun r q1 q2 q3 q4 q5 q6 => (lm_u_row q4).trans (frA r q1 q2 q3 q4 q5 q6), ?_, fun j j1 j2 => ?_, ?_, lm_u_eq, fun j hj => ?_, fun j hj => ?_⟩
  rotate_left
  · refine B5.tr (fh.G.B.tr (.of ?_))
    rw [lm_u_row (by decide), r10 203 (by decide), r9 203 (by decide)]
  · rw [lm_u_ne (fun g => j2 g.2), e214, v214 j j1]
  · rw [lm_u_ne (by decide), e214, ← eM3, lm_u_row (by decide), lm_u_eq]
  · rw [lm_u_row (by decide), r10 207 (by decide), r9 207 (by decide), fh.1 207 (by decide) (by decide), r5 207 (by decide), a1 207 (by decide) (by decide), r3 207 (by decide) (by decide)]
    exact v2 j hj
  · rw [lm_u_row (by decide)]
    unfold lm_sec
    by_cases q1 : 768 * k + 64 ≤ j
    · rw [if_neg (by omega), if_neg (by omega), if_neg (by omega), ← eM10, lm_fl_in (by omega), lm_yb_b8, r9 206 (by decide), fh.1 206 (by decide) (by decide), fr5 206 (by decide) (by decide) (by decide) (by decide) (by decide), show j - (384 * k + (384 * k + 32) + 32) = j - (768 * k + 64) by omega]
      exact lm_b8_ne (hR _ (by omega))
    · rw [← eM10, lm_fl_out (by omega)]
      by_cases q2 : 768 * k + 32 ≤ j
      · rw [if_neg (by omega), if_neg (by omega), if_pos (by omega), ← eM9, lm_fl_in (by omega), show j - (384 * k + (384 * k + 32)) = j - (768 * k + 32) by omega]
      · rw [← eM9, lm_fl_out (by omega), fh.1 208 (by decide) (by decide)]
        by_cases q3 : 384 * k ≤ j
        · rw [if_neg (by omega), if_pos (by omega), ← eM5, lm_fl_in (by omega), lm_yb_b8, e265, Nat.zero_add]
          exact v1 _ (by omega)
        · rw [if_pos (by omega), ← eM5, lm_fl_out (by omega), ← lm_pkB_g (by decide)]
          have := lm_PB_yb a4 (j := j) (by omega)
          rw [Nat.zero_add] at this
          exact this
  · refine lm_e22_137 ?_
    unfold lm_q22_137
    repeat (first
    | ((with_reducible apply lm_sI); exact rfl)
    | ((with_reducible apply lm_sR); exact rfl)
    | ((with_reducible apply lm_sS); exact rfl; exact rfl)
    | ((with_reducible apply lm_sL); exact rfl)
    | ((with_reducible apply lm_sP); exact rfl; exact rfl)
    | ((with_reducible apply lm_sPL); exact rfl; exact rfl)
    | ((with_reducible apply lm_sAA); exact rfl; exact rfl)
    | ((with_reducible apply lm_sA); (first | exact rfl | assumption); omega)
    | ((with_reducible apply lm_sJ); (first | exact rfl | assumption); omega)
    | ((with_reducible apply lm_sB); (first | exact rfl | assumption); omega)
    | ((with_reducible apply lm_wA); (first | exact rfl | assumption); omega)
    | ((with_reducible apply lm_wJ); (first | exact rfl | assumption); omega)
    | ((with_reducible apply lm_wB); (first | exact rfl | assumption); omega)
    | ((with_reducible apply lm_sAl); (first | exact rfl | assumption); omega)
    | ((with_reducible apply lm_iW); decide))
    simp only [Nat.reduceDiv, Nat.reduceMod]
    rw [h.2.1]
    refine lm_geT (by omega) (by omega) (by omega) ?_
    repeat (first
    | ((with_reducible apply lm_sI); exact rfl)
    | ((with_reducible apply lm_sR); exact rfl)
    | ((with_reducible apply lm_sS); exact rfl; exact rfl)
    | ((with_reducible apply lm_sL); exact rfl)
    | ((with_reducible apply lm_sP); exact rfl; exact rfl)
    | ((with_reducible apply lm_sPL); exact rfl; exact rfl)
    | ((with_reducible apply lm_sAA); exact rfl; exact rfl)
    | ((with_reducible apply lm_sA); (first | exact rfl | assumption); omega)
    | ((with_reducible apply lm_sJ); (first | exact rfl | assumption); omega)
    | ((with_reducible apply lm_sB); (first | exact rfl | assumption); omega)
    | ((with_reducible apply lm_wA); (first | exact rfl | assumption); omega)
    | ((with_reducible apply lm_wJ); (first | exact rfl | assumption); omega)
    | ((with_reducible apply lm_wB); (first | exact rfl | assumption); omega)
    | ((with_reducible apply lm_sAl); (first | exact rfl | assumption); omega)
    | ((with_reducible apply lm_iW); decide))
    simp only [Nat.reduceDiv, Nat.reduceMod]
    rw [h.2.1, lm_K0, lm_K384, lm_K32, lm_om]
    refine lm_cV c1 ?_
    repeat (first
    | ((with_reducible apply lm_sI); exact rfl)
    | ((with_reducible apply lm_sR); exact rfl)
    | ((with_reducible apply lm_sS); exact rfl; exact rfl)
    | ((with_reducible apply lm_sL); exact rfl)
    | ((with_reducible apply lm_sP); exact rfl; exact rfl)
    | ((with_reducible apply lm_sPL); exact rfl; exact rfl)
    | ((with_reducible apply lm_sAA); exact rfl; exact rfl)
    | ((with_reducible apply lm_sA); (first | exact rfl | assumption); omega)
    | ((with_reducible apply lm_sJ); (first | exact rfl | assumption); omega)
    | ((with_reducible apply lm_sB); (first | exact rfl | assumption); omega)
    | ((with_reducible apply lm_wA); (first | exact rfl | assumption); omega)
    | ((with_reducible apply lm_wJ); (first | exact rfl | assumption); omega)
    | ((with_reducible apply lm_wB); (first | exact rfl | assumption); omega)
    | ((with_reducible apply lm_sAl); (first | exact rfl | assumption); omega)
    | ((with_reducible apply lm_iW); decide))
    simp only [Nat.reduceDiv, Nat.reduceMod]
    rw [r1 203 (by decide), h.2.1, lm_K1, lm_om, lm_oo]
    repeat (first
    | ((with_reducible apply lm_sI); exact rfl)
    | ((with_reducible apply lm_sR); exact rfl)
    | ((with_reducible apply lm_sS); exact rfl; exact rfl)
    | ((with_reducible apply lm_sL); exact rfl)
    | ((with_reducible apply lm_sP); exact rfl; exact rfl)
    | ((with_reducible apply lm_sPL); exact rfl; exact rfl)
    | ((with_reducible apply lm_sAA); exact rfl; exact rfl)
    | ((with_reducible apply lm_sA); (first | exact rfl | assumption); omega)
    | ((with_reducible apply lm_sJ); (first | exact rfl | assumption); omega)
    | ((with_reducible apply lm_sB); (first | exact rfl | assumption); omega)
    | ((with_reducible apply lm_wA); (first | exact rfl | assumption); omega)
    | ((with_reducible apply lm_wJ); (first | exact rfl | assumption); omega)
    | ((with_reducible apply lm_wB); (first | exact rfl | assumption); omega)
    | ((with_reducible apply lm_sAl); (first | exact rfl | assumption); omega)
    | ((with_reducible apply lm_iW); decide))
    refine lm_cV c2 ?_
    repeat (first
    | ((with_reducible apply lm_sI); exact rfl)
    | ((with_reducible apply lm_sR); exact rfl)
    | ((with_reducible apply lm_sS); exact rfl; exact rfl)
    | ((with_reducible apply lm_sL); exact rfl)
    | ((with_reducible apply lm_sP); exact rfl; exact rfl)
    | ((with_reducible apply lm_sPL); exact rfl; exact rfl)
    | ((with_reducible apply lm_sAA); exact rfl; exact rfl)
    | ((with_reducible apply lm_sA); (first | exact rfl | assumption); omega)
    | ((with_reducible apply lm_sJ); (first | exact rfl | assumption); omega)
    | ((with_reducible apply lm_sB); (first | exact rfl | assumption); omega)
    | ((with_reducible apply lm_wA); (first | exact rfl | assumption); omega)
    | ((with_reducible apply lm_wJ); (first | exact rfl | assumption); omega)
    | ((with_reducible apply lm_wB); (first | exact rfl | assumption); omega)
    | ((with_reducible apply lm_sAl); (first | exact rfl | assumption); omega)
    | ((with_reducible apply lm_iW); decide))
    simp only [Nat.reduceDiv, Nat.reduceMod]
    rw [eM3]
    refine k4 _ (lm_e22_356 ?_)
    unfold lm_q22_356
    repeat (first
    | ((with_reducible apply lm_sI); exact rfl)
    | ((with_reducible apply lm_sR); exact rfl)
    | ((with_reducible apply lm_sS); exact rfl; exact rfl)
    | ((with_reducible apply lm_sL); exact rfl)
    | ((with_reducible apply lm_sP); exact rfl; exact rfl)
    | ((with_reducible apply lm_sPL); exact rfl; exact rfl)
    | ((with_reducible apply lm_sAA); exact rfl; exact rfl)
    | ((with_reducible apply lm_sA); (first | exact rfl | assumption); omega)
    | ((with_reducible apply lm_sJ); (first | exact rfl | assumption); omega)
    | ((with_reducible apply lm_sB); (first | exact rfl | assumption); omega)
    | ((with_reducible apply lm_wA); (first | exact rfl | assumption); omega)
    | ((with_reducible apply lm_wJ); (first | exact rfl | assumption); omega)
    | ((with_reducible apply lm_wB); (first | exact rfl | assumption); omega)
    | ((with_reducible apply lm_sAl); (first | exact rfl | assumption); omega)
    | ((with_reducible apply lm_iW); decide))
    simp only [Nat.reduceDiv, Nat.reduceMod]
    rw [k44]
    refine lm_geT (by omega) (by omega) (by omega) ?_
    rw [lm_K2, lm_K0, lm_K8, lm_K32, lm_K384, lm_K768, lm_K96]
    repeat (first
    | ((with_reducible apply lm_sI); exact rfl)
    | ((with_reducible apply lm_sR); exact rfl)
    | ((with_reducible apply lm_sS); exact rfl; exact rfl)
    | ((with_reducible apply lm_sL); exact rfl)
    | ((with_reducible apply lm_sP); exact rfl; exact rfl)
    | ((with_reducible apply lm_sPL); exact rfl; exact rfl)
    | ((with_reducible apply lm_sAA); exact rfl; exact rfl)
    | ((with_reducible apply lm_sA); (first | exact rfl | assumption); omega)
    | ((with_reducible apply lm_sJ); (first | exact rfl | assumption); omega)
    | ((with_reducible apply lm_sB); (first | exact rfl | assumption); omega)
    | ((with_reducible apply lm_wA); (first | exact rfl | assumption); omega)
    | ((with_reducible apply lm_wJ); (first | exact rfl | assumption); omega)
    | ((with_reducible apply lm_wB); (first | exact rfl | assumption); omega)
    | ((with_reducible apply lm_sAl); (first | exact rfl | assumption); omega)
    | ((with_reducible apply lm_iW); decide))
    simp only [Nat.reduceDiv, Nat.reduceMod]
    rw [k44, lm_om]
    refine lm_cV c5 ?_
    repeat (first
    | ((with_reducible apply lm_sI); exact rfl)
    | ((with_reducible apply lm_sR); exact rfl)
    | ((with_reducible apply lm_sS); exact rfl; exact rfl)
    | ((with_reducible apply lm_sL); exact rfl)
    | ((with_reducible apply lm_sP); exact rfl; exact rfl)
    | ((with_reducible apply lm_sPL); exact rfl; exact rfl)
    | ((with_reducible apply lm_sAA); exact rfl; exact rfl)
    | ((with_reducible apply lm_sA); (first | exact rfl | assumption); omega)
    | ((with_reducible apply lm_sJ); (first | exact rfl | assumption); omega)
    | ((with_reducible apply lm_sB); (first | exact rfl | assumption); omega)
    | ((with_reducible apply lm_wA); (first | exact rfl | assumption); omega)
    | ((with_reducible apply lm_wJ); (first | exact rfl | assumption); omega)
    | ((with_reducible apply lm_wB); (first | exact rfl | assumption); omega)
    | ((with_reducible apply lm_sAl); (first | exact rfl | assumption); omega)
    | ((with_reducible apply lm_iW); decide))
    refine lm_cV c6 ?_
    repeat (first
    | ((with_reducible apply lm_sI); exact rfl)
    | ((with_reducible apply lm_sR); exact rfl)
    | ((with_reducible apply lm_sS); exact rfl; exact rfl)
    | ((with_reducible apply lm_sL); exact rfl)
    | ((with_reducible apply lm_sP); exact rfl; exact rfl)
    | ((with_reducible apply lm_sPL); exact rfl; exact rfl)
    | ((with_reducible apply lm_sAA); exact rfl; exact rfl)
    | ((with_reducible apply lm_sA); (first | exact rfl | assumption); omega)
    | ((with_reducible apply lm_sJ); (first | exact rfl | assumption); omega)
    | ((with_reducible apply lm_sB); (first | exact rfl | assumption); omega)
    | ((with_reducible apply lm_wA); (first | exact rfl | assumption); omega)
    | ((with_reducible apply lm_wJ); (first | exact rfl | assumption); omega)
    | ((with_reducible apply lm_wB); (first | exact rfl | assumption); omega)
    | ((with_reducible apply lm_sAl); (first | exact rfl | assumption); omega)
    | ((with_reducible apply lm_iW); decide))
    refine lm_cV c7 ?_
    repeat (first
    | ((with_reducible apply lm_sI); exact rfl)
    | ((with_reducible apply lm_sR); exact rfl)
    | ((with_reducible apply lm_sS); exact rfl; exact rfl)
    | ((with_reducible apply lm_sL); exact rfl)
    | ((with_reducible apply lm_sP); exact rfl; exact rfl)
    | ((with_reducible apply lm_sPL); exact rfl; exact rfl)
    | ((with_reducible apply lm_sAA); exact rfl; exact rfl)
    | ((with_reducible apply lm_sA); (first | exact rfl | assumption); omega)
    | ((with_reducible apply lm_sJ); (first | exact rfl | assumption); omega)
    | ((with_reducible apply lm_sB); (first | exact rfl | assumption); omega)
    | ((with_reducible apply lm_wA); (first | exact rfl | assumption); omega)
    | ((with_reducible apply lm_wJ); (first | exact rfl | assumption); omega)
    | ((with_reducible apply lm_wB); (first | exact rfl | assumption); omega)
    | ((with_reducible apply lm_sAl); (first | exact rfl | assumption); omega)
    | ((with_reducible apply lm_iW); decide))
    simp only [Nat.reduceDiv, Nat.reduceMod]
    rw [k8 m7 (f6.tr f7).2.1, lm_om, lm_oo]
    refine lm_cV c8 ?_
    repeat (first
    | ((with_reducible apply lm_sI); exact rfl)
    | ((with_reducible apply lm_sR); exact rfl)
    | ((with_reducible apply lm_sS); exact rfl; exact rfl)
    | ((with_reducible apply lm_sL); exact rfl)
    | ((with_reducible apply lm_sP); exact rfl; exact rfl)
    | ((with_reducible apply lm_sPL); exact rfl; exact rfl)
    | ((with_reducible apply lm_sAA); exact rfl; exact rfl)
    | ((with_reducible apply lm_sA); (first | exact rfl | assumption); omega)
    | ((with_reducible apply lm_sJ); (first | exact rfl | assumption); omega)
    | ((with_reducible apply lm_sB); (first | exact rfl | assumption); omega)
    | ((with_reducible apply lm_wA); (first | exact rfl | assumption); omega)
    | ((with_reducible apply lm_wJ); (first | exact rfl | assumption); omega)
    | ((with_reducible apply lm_wB); (first | exact rfl | assumption); omega)
    | ((with_reducible apply lm_sAl); (first | exact rfl | assumption); omega)
    | ((with_reducible apply lm_iW); decide))
    simp only [Nat.reduceDiv, Nat.reduceMod]
    rw [k8 M9 (fun j j1 j2 j3 => by rw [r9 203 (by decide)]; exact fh.2.1 j j1 j2 j3), lm_om, lm_oo, lm_oo]
    refine lm_cV c10 ?_
    repeat (first
    | ((with_reducible apply lm_sI); exact rfl)
    | ((with_reducible apply lm_sR); exact rfl)
    | ((with_reducible apply lm_sS); exact rfl; exact rfl)
    | ((with_reducible apply lm_sL); exact rfl)
    | ((with_reducible apply lm_sP); exact rfl; exact rfl)
    | ((with_reducible apply lm_sPL); exact rfl; exact rfl)
    | ((with_reducible apply lm_sAA); exact rfl; exact rfl)
    | ((with_reducible apply lm_sA); (first | exact rfl | assumption); omega)
    | ((with_reducible apply lm_sJ); (first | exact rfl | assumption); omega)
    | ((with_reducible apply lm_sB); (first | exact rfl | assumption); omega)
    | ((with_reducible apply lm_wA); (first | exact rfl | assumption); omega)
    | ((with_reducible apply lm_wJ); (first | exact rfl | assumption); omega)
    | ((with_reducible apply lm_wB); (first | exact rfl | assumption); omega)
    | ((with_reducible apply lm_sAl); (first | exact rfl | assumption); omega)
    | ((with_reducible apply lm_iW); decide))
    simp only [Nat.reduceDiv, Nat.reduceMod]
    rw [k8 M10 (fun j j1 j2 j3 => by rw [r10 203 (by decide), r9 203 (by decide)]; exact fh.2.1 j j1 j2 j3), lm_om, lm_oo]
    repeat (first
    | ((with_reducible apply lm_sI); exact rfl)
    | ((with_reducible apply lm_sR); exact rfl)
    | ((with_reducible apply lm_sS); exact rfl; exact rfl)
    | ((with_reducible apply lm_sL); exact rfl)
    | ((with_reducible apply lm_sP); exact rfl; exact rfl)
    | ((with_reducible apply lm_sPL); exact rfl; exact rfl)
    | ((with_reducible apply lm_sAA); exact rfl; exact rfl)
    | ((with_reducible apply lm_sA); (first | exact rfl | assumption); omega)
    | ((with_reducible apply lm_sJ); (first | exact rfl | assumption); omega)
    | ((with_reducible apply lm_sB); (first | exact rfl | assumption); omega)
    | ((with_reducible apply lm_wA); (first | exact rfl | assumption); omega)
    | ((with_reducible apply lm_wJ); (first | exact rfl | assumption); omega)
    | ((with_reducible apply lm_wB); (first | exact rfl | assumption); omega)
    | ((with_reducible apply lm_sAl); (first | exact rfl | assumption); omega)
    | ((with_reducible apply lm_iW); decide))
    rw [lm_u_eq]
    rfl
end LMRZ
