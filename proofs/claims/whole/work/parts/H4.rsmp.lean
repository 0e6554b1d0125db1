/-! ===== Dsa: sampleWide of the reference ===== -/
section LMSD
variable {sc : lm_H} {C : lm_CX} {d p q v a : Nat} {m m0 : lm_MI} {n n0 : lm_ML} {x : lm_H × Nat × Nat} {G : Nat → Int32} {w1 w2 : Int32}
def lm_I91 (C : lm_CX) (G : Nat → Int32) (p : Nat) (m0 : lm_MI) (n0 : lm_ML) (t : Nat) (m : lm_MI) (n : lm_ML) : Prop := (∀ q, q ≠ 203 → q ≠ 227 → q ≠ p → m q = m0 q) ∧ lm_fG m0 n0 m n ∧ lm_hl2 m p (lm_dw' (lm_B11 C G) t) ∧ lm_rQ m n C 11 G 34 (3 * t)
theorem lm_l91s {t : Nat} (hC : lm_cx m0 n0 = C) (hp : lm_ar p = some (0, 256)) (hp3 : p ≠ 203 ∧ p ≠ 227 ∧ p ≠ 221) (ht : t < 298) (hs : (lm_dw' (lm_B11 C G) t).1 < 256) (h : lm_I91 C G p m0 n0 t m n) : ∃ m' n', lm_I91 C G p m0 n0 (t + 1) m' n' ∧ ∀ R, lm_rn sc (d + 3) lm_m91.2.2.2.2.1 (lm_reg lm_m91.2.2.2.2.2) (36, [(0, .ref 203), (1, .ref p), (6, .int (Int32.ofNat (lm_dw' (lm_B11 C G) (t + 1)).1)), (7, .int (Int32.ofNat (t + 1)))], []) (lm_w m' n' x) = some R → lm_rn sc (d + 3) lm_m91.2.2.2.2.1 (lm_reg lm_m91.2.2.2.2.2) (36, [(0, .ref 203), (1, .ref p), (6, .int (Int32.ofNat (lm_dw' (lm_B11 C G) t).1)), (7, .int (Int32.ofNat t))], []) (lm_w m n x) = some R := by
  obtain ⟨g1, g2, g3, g4⟩ := h
  have hcx : lm_cx m n = C := (g2.cx (g1 221 (by decide) (by decide) (fun g => hp3.2.2 g.symm))).trans hC
  obtain ⟨m1, n1, m2, n2, m3, n3, c1, c2, c3, s3, f3⟩ := lm_rSq3 (sc := sc) (d := d) (x := x) hcx (by decide) (by decide) g4
  have es : lm_dw' (lm_B11 C G) (t + 1) = lm_dw1 (lm_B11 C G (3 * t) + 256 * lm_B11 C G (3 * t + 1) + 65536 * (lm_B11 C G (3 * t + 2) % 128)) (lm_dw' (lm_B11 C G) t) := rfl
  have l0 : lm_B11 C G (3 * t) < 256 := lm_yb_lt _
  have l1 : lm_B11 C G (3 * t + 1) < 256 := lm_yb_lt _
  have l2 : lm_B11 C G (3 * t + 2) < 256 := lm_yb_lt _
  have eb0 : lm_yb (lm_Hm C 11 G 34 (3 * t)) = lm_B11 C G (3 * t) := rfl
  have eb1 : lm_yb (lm_Hm C 11 G 34 (3 * t + 1)) = lm_B11 C G (3 * t + 1) := rfl
  have eb2 : lm_yb (lm_Hm C 11 G 34 (3 * t + 2)) = lm_B11 C G (3 * t + 2) := rfl
  rw [eb0] at c1
  rw [eb1] at c2
  rw [eb2] at c3
  have gm : ∀ q, q ≠ 203 → q ≠ 227 → q ≠ p → m3 q = m0 q := fun q h1 h2 h3 => (f3.1 q h1 h2).trans (g1 q h1 h2 h3)
  have gG : lm_fG m0 n0 m3 n3 := g2.tr f3.G
  have gh : lm_hl2 m3 p (lm_dw' (lm_B11 C G) t) := fun i hi => by rw [f3.1 p hp3.1 hp3.2.1]; exact g3 i hi
  generalize lm_B11 C G (3 * t) = b0 at *
  generalize lm_B11 C G (3 * t + 1) = b1 at *
  generalize lm_B11 C G (3 * t + 2) = b2 at *
  generalize esn : lm_dw' (lm_B11 C G) t = s at *
  have run : ∀ R, lm_if .ge (Int32.ofNat (b0 + 256 * b1 + 65536 * (b2 % 128))) (Int32.ofNat 8380417) (lm_rn sc (d + 3) lm_m91.2.2.2.2.1 (lm_reg lm_m91.2.2.2.2.2) (108, [(0, .ref 203), (1, .ref p), (6, .int (Int32.ofNat s.1)), (7, .int (Int32.ofNat t))], [])) (lm_bind (lm_iast p (Int32.ofNat s.1) (Int32.ofNat (b0 + 256 * b1 + 65536 * (b2 % 128)))) fun _ => lm_rn sc (d + 3) lm_m91.2.2.2.2.1 (lm_reg lm_m91.2.2.2.2.2) (108, [(0, .ref 203), (1, .ref p), (6, .int (Int32.ofNat s.1 + Int32.ofInt 1)), (7, .int (Int32.ofNat t))], [])) (lm_w m3 n3 x) = some R → lm_rn sc (d + 3) lm_m91.2.2.2.2.1 (lm_reg lm_m91.2.2.2.2.2) (36, [(0, .ref 203), (1, .ref p), (6, .int (Int32.ofNat s.1)), (7, .int (Int32.ofNat t))], []) (lm_w m n x) = some R := by
    intro R K
    refine lm_e91_36 ?_
    unfold lm_q91_36
    rw [show Int32.ofInt 298 = Int32.ofNat 298 from rfl, lm_K256]
    refine lm_geF (by omega) (by omega) (by omega) (lm_geF (by omega) (by omega) (by omega) ?_)
    repeat (first
    | ((with_reducible apply lm_sI); exact rfl)
    | ((with_reducible apply lm_sR); exact rfl)
    | ((with_reducible apply lm_sS); exact rfl; exact rfl)
    | ((with_reducible apply lm_sL); exact rfl)
    | ((with_reducible apply lm_sP); exact rfl; exact rfl)
    | ((with_reducible apply lm_sPL); exact rfl; exact rfl)
    | ((with_reducible apply lm_sAA); exact rfl; exact rfl)
    | ((with_reducible apply lm_sA); (first | exact rfl | assumption); omega)
    | ((with_reducible apply lm_sJ); (first | exact rfl | assumption); omega)
    | ((with_reducible apply lm_sB); (first | exact rfl | assumption); omega)
    | ((with_reducible apply lm_wA); (first | exact rfl | assumption); omega)
    | ((with_reducible apply lm_wJ); (first | exact rfl | assumption); omega)
    | ((with_reducible apply lm_wB); (first | exact rfl | assumption); omega)
    | ((with_reducible apply lm_sAl); (first | exact rfl | assumption); omega)
    | ((with_reducible apply lm_iW); decide))
    refine lm_cI c1 ?_
    repeat (first
    | ((with_reducible apply lm_sI); exact rfl)
    | ((with_reducible apply lm_sR); exact rfl)
    | ((with_reducible apply lm_sS); exact rfl; exact rfl)
    | ((with_reducible apply lm_sL); exact rfl)
    | ((with_reducible apply lm_sP); exact rfl; exact rfl)
    | ((with_reducible apply lm_sPL); exact rfl; exact rfl)
    | ((with_reducible apply lm_sAA); exact rfl; exact rfl)
    | ((with_reducible apply lm_sA); (first | exact rfl | assumption); omega)
    | ((with_reducible apply lm_sJ); (first | exact rfl | assumption); omega)
    | ((with_reducible apply lm_sB); (first | exact rfl | assumption); omega)
    | ((with_reducible apply lm_wA); (first | exact rfl | assumption); omega)
    | ((with_reducible apply lm_wJ); (first | exact rfl | assumption); omega)
    | ((with_reducible apply lm_wB); (first | exact rfl | assumption); omega)
    | ((with_reducible apply lm_sAl); (first | exact rfl | assumption); omega)
    | ((with_reducible apply lm_iW); decide))
    refine lm_cI c2 ?_
    repeat (first
    | ((with_reducible apply lm_sI); exact rfl)
    | ((with_reducible apply lm_sR); exact rfl)
    | ((with_reducible apply lm_sS); exact rfl; exact rfl)
    | ((with_reducible apply lm_sL); exact rfl)
    | ((with_reducible apply lm_sP); exact rfl; exact rfl)
    | ((with_reducible apply lm_sPL); exact rfl; exact rfl)
    | ((with_reducible apply lm_sAA); exact rfl; exact rfl)
    | ((with_reducible apply lm_sA); (first | exact rfl | assumption); omega)
    | ((with_reducible apply lm_sJ); (first | exact rfl | assumption); omega)
    | ((with_reducible apply lm_sB); (first | exact rfl | assumption); omega)
    | ((with_reducible apply lm_wA); (first | exact rfl | assumption); omega)
    | ((with_reducible apply lm_wJ); (first | exact rfl | assumption); omega)
    | ((with_reducible apply lm_wB); (first | exact rfl | assumption); omega)
    | ((with_reducible apply lm_sAl); (first | exact rfl | assumption); omega)
    | ((with_reducible apply lm_iW); decide))
    refine lm_cI c3 ?_
    rw [lm_K128, lm_orm (by omega) (by omega), show Int32.ofInt 65536 = Int32.ofNat 65536 from rfl, lm_om, lm_om, lm_oo, lm_oo, show Int32.ofInt 8380417 = Int32.ofNat 8380417 from rfl]
    repeat (first
    | ((with_reducible apply lm_sI); exact rfl)
    | ((with_reducible apply lm_sR); exact rfl)
    | ((with_reducible apply lm_sS); exact rfl; exact rfl)
    | ((with_reducible apply lm_sL); exact rfl)
    | ((with_reducible apply lm_sP); exact rfl; exact rfl)
    | ((with_reducible apply lm_sPL); exact rfl; exact rfl)
    | ((with_reducible apply lm_sAA); exact rfl; exact rfl)
    | ((with_reducible apply lm_sA); (first | exact rfl | assumption); omega)
    | ((with_reducible apply lm_sJ); (first | exact rfl | assumption); omega)
    | ((with_reducible apply lm_sB); (first | exact rfl | assumption); omega)
    | ((with_reducible apply lm_wA); (first | exact rfl | assumption); omega)
    | ((with_reducible apply lm_wJ); (first | exact rfl | assumption); omega)
    | ((with_reducible apply lm_wB); (first | exact rfl | assumption); omega)
    | ((with_reducible apply lm_sAl); (first | exact rfl | assumption); omega)
    | ((with_reducible apply lm_iW); decide))
    exact K
  rw [es]
  by_cases c : b0 + 256 * b1 + 65536 * (b2 % 128) < 8380417
  · have e1 : (lm_dw1 (b0 + 256 * b1 + 65536 * (b2 % 128)) s).1 = s.1 + 1 := by
      unfold lm_dw1
      rw [if_pos ⟨hs, c⟩]
    have e203 : lm_u m3 p s.1 (Int32.ofNat (b0 + 256 * b1 + 65536 * (b2 % 128))) 203 = m3 203 := lm_u_row (fun g => hp3.1 g.symm)
    refine ⟨lm_u m3 p s.1 (Int32.ofNat (b0 + 256 * b1 + 65536 * (b2 % 128))), n3, ⟨fun q h1 h2 h3 => (lm_u_row h3).trans (gm q h1 h2 h3), gG.tr (.of e203), by rw [es]; exact lm_hl2_dw gh ⟨hs, c⟩, ?_⟩, fun R K => run R ?_⟩
    · unfold lm_rQ
      rw [e203, Nat.mul_add]
      exact s3
    · rw [e1] at K
      refine lm_geFb (by omega) (by omega) (by omega) ?_
      repeat (first
    | ((with_reducible apply lm_sI); exact rfl)
    | ((with_reducible apply lm_sR); exact rfl)
    | ((with_reducible apply lm_sS); exact rfl; exact rfl)
    | ((with_reducible apply lm_sL); exact rfl)
    | ((with_reducible apply lm_sP); exact rfl; exact rfl)
    | ((with_reducible apply lm_sPL); exact rfl; exact rfl)
    | ((with_reducible apply lm_sAA); exact rfl; exact rfl)
    | ((with_reducible apply lm_sA); (first | exact rfl | assumption); omega)
    | ((with_reducible apply lm_sJ); (first | exact rfl | assumption); omega)
    | ((with_reducible apply lm_sB); (first | exact rfl | assumption); omega)
    | ((with_reducible apply lm_wA); (first | exact rfl | assumption); omega)
    | ((with_reducible apply lm_wJ); (first | exact rfl | assumption); omega)
    | ((with_reducible apply lm_wB); (first | exact rfl | assumption); omega)
    | ((with_reducible apply lm_sAl); (first | exact rfl | assumption); omega)
    | ((with_reducible apply lm_iW); decide))
      refine lm_e91_108 ?_
      unfold lm_q91_108
      rw [lm_K1, lm_oo, lm_oo]
      exact K
  · have e1 : lm_dw1 (b0 + 256 * b1 + 65536 * (b2 % 128)) s = s := by
      unfold lm_dw1
      rw [if_neg (fun g => c g.2)]
    rw [e1]
    refine ⟨m3, n3, ⟨gm, gG, by rw [es, e1]; exact gh, by rw [Nat.mul_add]; exact s3⟩, fun R K => run R ?_⟩
    refine lm_geTb (by omega) (by omega) (by omega) (lm_e91_108 ?_)
    unfold lm_q91_108
    rw [lm_K1, lm_oo]
    exact K
theorem lm_l91 (hC : lm_cx m0 n0 = C) (hp : lm_ar p = some (0, 256)) (hp3 : p ≠ 203 ∧ p ≠ 227 ∧ p ≠ 221) : ∀ k t (m : lm_MI) (n : lm_ML), t + k = 298 → lm_I91 C G p m0 n0 t m n → ∃ m' n', (∀ q, q ≠ 203 → q ≠ 227 → q ≠ p → m' q = m0 q) ∧ lm_fG m0 n0 m' n' ∧ lm_hl2 m' p (lm_dw' (lm_B11 C G) 298) ∧ ∀ R, lm_rn sc (d + 3) lm_m91.2.2.2.2.1 (lm_reg lm_m91.2.2.2.2.2) (114, [(6, .int (Int32.ofNat (lm_dw' (lm_B11 C G) 298).1))], []) (lm_w m' n' x) = some R → lm_rn sc (d + 3) lm_m91.2.2.2.2.1 (lm_reg lm_m91.2.2.2.2.2) (36, [(0, .ref 203), (1, .ref p), (6, .int (Int32.ofNat (lm_dw' (lm_B11 C G) t).1)), (7, .int (Int32.ofNat t))], []) (lm_w m n x) = some R := by
  intro k
  induction k with
  | zero =>
    intro t m n ht h
    have e : t = 298 := ht
    subst e
    refine ⟨m, n, h.1, h.2.1, h.2.2.1, fun R K => lm_e91_36 ?_⟩
    unfold lm_q91_36
    rw [show Int32.ofInt 298 = Int32.ofNat 298 from rfl]
    exact lm_geT (by omega) (by omega) (by omega) K
  | succ k ih =>
    intro t m n ht h
    have hn := lm_dw_le (B := lm_B11 C G) t
    by_cases c : (lm_dw' (lm_B11 C G) t).1 < 256
    · obtain ⟨m1, n1, h1, k1⟩ := lm_l91s (sc := sc) (x := x) (d := d) hC hp hp3 (by omega) c h
      obtain ⟨m2, n2, a1, a2, a3, a4⟩ := ih (t + 1) m1 n1 (by omega) h1
      exact ⟨m2, n2, a1, a2, a3, fun R K => k1 R (a4 R K)⟩
    · have e : lm_dw' (lm_B11 C G) 298 = lm_dw' (lm_B11 C G) t := by
        rw [← ht]
        exact lm_dw_st c _
      rw [e]
      refine ⟨m, n, h.1, h.2.1, h.2.2.1, fun R K => lm_e91_36 ?_⟩
      unfold lm_q91_36
      rw [show Int32.ofInt 298 = Int32.ofNat 298 from rfl, lm_K256]
      exact lm_geF (by omega) (by omega) (by omega) (lm_geT (by omega) (by omega) (by omega) K)
/-- sampleWide of the reference -/
theorem lm_u91 (hC : lm_cx m n = C) (hp : lm_ar p = some (0, 256)) (hp3 : p ≠ 203 ∧ p ≠ 227 ∧ p ≠ 221) (hq : lm_ar q = some (1, v)) (hv : v ≤ 70000) (hav : a + 32 ≤ v) (hq3 : q ≠ 203 ∧ q ≠ 227) : ∃ m' n', lm_cal sc (d + 5) 91 [.ref 203, .ref p, .ref q, .int (Int32.ofNat a), .int w1, .int w2] (lm_w m n x) = some (.ok (some (.int (lm_z (decide ((lm_dw' (lm_B11 C (ln_gs (m q) a w1 w2)) 298).1 = 256))))), lm_w m' n' x) ∧ (∀ r, r ≠ 203 → r ≠ 227 → r ≠ p → m' r = m r) ∧ lm_fG m n m' n' ∧ lm_hl2 m' p (lm_dw' (lm_B11 C (ln_gs (m q) a w1 w2)) 298) := by
  obtain ⟨m1, n1, k1, s1, f1⟩ := lm_rS (sc := sc) (d := d + 2) (x := x) (k := 11) (G := ln_gs (m q) a w1 w2) hC (by decide) (by decide)
  have C1 := f1.cx.trans hC
  obtain ⟨m2, n2, k2, s2, f2⟩ := lm_rA (sc := sc) (d := d) (x := x) (k := 11) (q := q) (v := v) (a := a) (l := 32) (L := 0) (G := ln_gs (m q) a w1 w2) C1 (by decide) hq3 hq hav hv (fun t ht => by
    rw [f1.1 q hq3.1 hq3.2, Nat.zero_add, ln_gs, if_pos ht]) s1
  have C2 := f2.cx.trans C1
  obtain ⟨m3, n3, k3, s3, f3⟩ := lm_rB (sc := sc) (d := d + 1) (x := x) (k := 11) (w := w1) (L := 0 + 32) (G := ln_gs (m q) a w1 w2) C2 (by decide) (by rw [ln_gs, if_neg (by decide), if_pos rfl]) s2
  have C3 := f3.cx.trans C2
  obtain ⟨m4, n4, k4, s4, f4⟩ := lm_rB (sc := sc) (d := d + 1) (x := x) (k := 11) (w := w2) (L := 0 + 32 + 1) (G := ln_gs (m q) a w1 w2) C3 (by decide) (by rw [ln_gs, if_neg (by decide), if_neg (by decide)]) s3
  have C4 := f4.cx.trans C3
  obtain ⟨m5, n5, k5, s5, f5⟩ := lm_rF (sc := sc) (d := d) (x := x) (k := 11) C4 (by decide) (by decide) s4
  have fh := f1.tr (f2.tr (f3.tr (f4.tr f5)))
  obtain ⟨m6, n6, a1, a2, a3, a4⟩ := lm_l91 (sc := sc) (d := d + 1) (x := x) (m0 := m) (n0 := n) (G := ln_gs (m q) a w1 w2) hC hp hp3 298 0 m5 n5 (by omega) ⟨fun r h1 h2 _ => fh.1 r h1 h2, fh.G, fun i hi => absurd hi (by show ¬ i < 0; omega), s5⟩
  refine ⟨m6, n6, ?_, a1, a2, a3⟩
  refine lm_cal_of (Y := lm_m91) rfl rfl (lm_e91_0 ?_)
  unfold lm_q91_0
  rw [lm_K11, lm_K32, lm_K0]
  repeat (first
    | ((with_reducible apply lm_sI); exact rfl)
    | ((with_reducible apply lm_sR); exact rfl)
    | ((with_reducible apply lm_sS); exact rfl; exact rfl)
    | ((with_reducible apply lm_sL); exact rfl)
    | ((with_reducible apply lm_sP); exact rfl; exact rfl)
    | ((with_reducible apply lm_sPL); exact rfl; exact rfl)
    | ((with_reducible apply lm_sAA); exact rfl; exact rfl)
    | ((with_reducible apply lm_sA); (first | exact rfl | assumption); omega)
    | ((with_reducible apply lm_sJ); (first | exact rfl | assumption); omega)
    | ((with_reducible apply lm_sB); (first | exact rfl | assumption); omega)
    | ((with_reducible apply lm_wA); (first | exact rfl | assumption); omega)
    | ((with_reducible apply lm_wJ); (first | exact rfl | assumption); omega)
    | ((with_reducible apply lm_wB); (first | exact rfl | assumption); omega)
    | ((with_reducible apply lm_sAl); (first | exact rfl | assumption); omega)
    | ((with_reducible apply lm_iW); decide))
  refine lm_cV k1 ?_
  repeat (first
    | ((with_reducible apply lm_sI); exact rfl)
    | ((with_reducible apply lm_sR); exact rfl)
    | ((with_reducible apply lm_sS); exact rfl; exact rfl)
    | ((with_reducible apply lm_sL); exact rfl)
    | ((with_reducible apply lm_sP); exact rfl; exact rfl)
    | ((with_reducible apply lm_sPL); exact rfl; exact rfl)
    | ((with_reducible apply lm_sAA); exact rfl; exact rfl)
    | ((with_reducible apply lm_sA); (first | exact rfl | assumption); omega)
    | ((with_reducible apply lm_sJ); (first | exact rfl | assumption); omega)
    | ((with_reducible apply lm_sB); (first | exact rfl | assumption); omega)
    | ((with_reducible apply lm_wA); (first | exact rfl | assumption); omega)
    | ((with_reducible apply lm_wJ); (first | exact rfl | assumption); omega)
    | ((with_reducible apply lm_wB); (first | exact rfl | assumption); omega)
    | ((with_reducible apply lm_sAl); (first | exact rfl | assumption); omega)
    | ((with_reducible apply lm_iW); decide))
  refine lm_cV k2 ?_
  repeat (first
    | ((with_reducible apply lm_sI); exact rfl)
    | ((with_reducible apply lm_sR); exact rfl)
    | ((with_reducible apply lm_sS); exact rfl; exact rfl)
    | ((with_reducible apply lm_sL); exact rfl)
    | ((with_reducible apply lm_sP); exact rfl; exact rfl)
    | ((with_reducible apply lm_sPL); exact rfl; exact rfl)
    | ((with_reducible apply lm_sAA); exact rfl; exact rfl)
    | ((with_reducible apply lm_sA); (first | exact rfl | assumption); omega)
    | ((with_reducible apply lm_sJ); (first | exact rfl | assumption); omega)
    | ((with_reducible apply lm_sB); (first | exact rfl | assumption); omega)
    | ((with_reducible apply lm_wA); (first | exact rfl | assumption); omega)
    | ((with_reducible apply lm_wJ); (first | exact rfl | assumption); omega)
    | ((with_reducible apply lm_wB); (first | exact rfl | assumption); omega)
    | ((with_reducible apply lm_sAl); (first | exact rfl | assumption); omega)
    | ((with_reducible apply lm_iW); decide))
  refine lm_cV k3 ?_
  repeat (first
    | ((with_reducible apply lm_sI); exact rfl)
    | ((with_reducible apply lm_sR); exact rfl)
    | ((with_reducible apply lm_sS); exact rfl; exact rfl)
    | ((with_reducible apply lm_sL); exact rfl)
    | ((with_reducible apply lm_sP); exact rfl; exact rfl)
    | ((with_reducible apply lm_sPL); exact rfl; exact rfl)
    | ((with_reducible apply lm_sAA); exact rfl; exact rfl)
    | ((with_reducible apply lm_sA); (first | exact rfl | assumption); omega)
    | ((with_reducible apply lm_sJ); (first | exact rfl | assumption); omega)
    | ((with_reducible apply lm_sB); (first | exact rfl | assumption); omega)
    | ((with_reducible apply lm_wA); (first | exact rfl | assumption); omega)
    | ((with_reducible apply lm_wJ); (first | exact rfl | assumption); omega)
    | ((with_reducible apply lm_wB); (first | exact rfl | assumption); omega)
    | ((with_reducible apply lm_sAl); (first | exact rfl | assumption); omega)
    | ((with_reducible apply lm_iW); decide))
  refine lm_cV k4 ?_
  repeat (first
    | ((with_reducible apply lm_sI); exact rfl)
    | ((with_reducible apply lm_sR); exact rfl)
    | ((with_reducible apply lm_sS); exact rfl; exact rfl)
    | ((with_reducible apply lm_sL); exact rfl)
    | ((with_reducible apply lm_sP); exact rfl; exact rfl)
    | ((with_reducible apply lm_sPL); exact rfl; exact rfl)
    | ((with_reducible apply lm_sAA); exact rfl; exact rfl)
    | ((with_reducible apply lm_sA); (first | exact rfl | assumption); omega)
    | ((with_reducible apply lm_sJ); (first | exact rfl | assumption); omega)
    | ((with_reducible apply lm_sB); (first | exact rfl | assumption); omega)
    | ((with_reducible apply lm_wA); (first | exact rfl | assumption); omega)
    | ((with_reducible apply lm_wJ); (first | exact rfl | assumption); omega)
    | ((with_reducible apply lm_wB); (first | exact rfl | assumption); omega)
    | ((with_reducible apply lm_sAl); (first | exact rfl | assumption); omega)
    | ((with_reducible apply lm_iW); decide))
  refine lm_cV k5 ?_
  refine a4 _ (lm_e91_114 ?_)
  have hn := lm_dw_le (B := lm_B11 C (ln_gs (m q) a w1 w2)) 298
  unfold lm_q91_114
  rw [lm_K256]
  by_cases c : (lm_dw' (lm_B11 C (ln_gs (m q) a w1 w2)) 298).1 = 256
  · rw [decide_eq_true c]
    refine lm_neF (by omega) (by omega) (fun g => g c) ?_
    repeat (first
    | ((with_reducible apply lm_sI); exact rfl)
    | ((with_reducible apply lm_sR); exact rfl)
    | ((with_reducible apply lm_sS); exact rfl; exact rfl)
    | ((with_reducible apply lm_sL); exact rfl)
    | ((with_reducible apply lm_sP); exact rfl; exact rfl)
    | ((with_reducible apply lm_sPL); exact rfl; exact rfl)
    | ((with_reducible apply lm_sAA); exact rfl; exact rfl)
    | ((with_reducible apply lm_sA); (first | exact rfl | assumption); omega)
    | ((with_reducible apply lm_sJ); (first | exact rfl | assumption); omega)
    | ((with_reducible apply lm_sB); (first | exact rfl | assumption); omega)
    | ((with_reducible apply lm_wA); (first | exact rfl | assumption); omega)
    | ((with_reducible apply lm_wJ); (first | exact rfl | assumption); omega)
    | ((with_reducible apply lm_wB); (first | exact rfl | assumption); omega)
    | ((with_reducible apply lm_sAl); (first | exact rfl | assumption); omega)
    | ((with_reducible apply lm_iW); decide))
    rfl
  · rw [decide_eq_false c]
    refine lm_neT (by omega) (by omega) c ?_
    repeat (first
    | ((with_reducible apply lm_sI); exact rfl)
    | ((with_reducible apply lm_sR); exact rfl)
    | ((with_reducible apply lm_sS); exact rfl; exact rfl)
    | ((with_reducible apply lm_sL); exact rfl)
    | ((with_reducible apply lm_sP); exact rfl; exact rfl)
    | ((with_reducible apply lm_sPL); exact rfl; exact rfl)
    | ((with_reducible apply lm_sAA); exact rfl; exact rfl)
    | ((with_reducible apply lm_sA); (first | exact rfl | assumption); omega)
    | ((with_reducible apply lm_sJ); (first | exact rfl | assumption); omega)
    | ((with_reducible apply lm_sB); (first | exact rfl | assumption); omega)
    | ((with_reducible apply lm_wA); (first | exact rfl | assumption); omega)
    | ((with_reducible apply lm_wJ); (first | exact rfl | assumption); omega)
    | ((with_reducible apply lm_wB); (first | exact rfl | assumption); omega)
    | ((with_reducible apply lm_sAl); (first | exact rfl | assumption); omega)
    | ((with_reducible apply lm_iW); decide))
    rfl
end LMSD
