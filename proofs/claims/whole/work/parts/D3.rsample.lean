/-! ===== sample of the reference ===== -/
def ln_gs (s : Nat → Int32) (a : Nat) (w1 w2 : Int32) (i : Nat) : Int32 := if i < 32 then lm_b8 (s (a + i)) else if i = 32 then lm_b8 w1 else lm_b8 w2
section LMSR
variable {sc : lm_H} {C : lm_CX} {d p q v a : Nat} {m m0 : lm_MI} {n n0 : lm_ML} {x : lm_H × Nat × Nat} {G : Nat → Int32} {w1 w2 : Int32}
/-- three bytes -/
theorem lm_rSq3 {k L t : Nat} (hC : lm_cx m n = C) (hk : 6 < k) (h2 : k ≤ 12) (hS : lm_rQ m n C k G L t) : ∃ m1 n1 m2 n2 m3 n3, lm_cal sc (d + 3) 149 [.ref 203] (lm_w m n x) = some (.ok (some (.int (Int32.ofNat (lm_yb (lm_Hm C k G L t))))), lm_w m1 n1 x) ∧ lm_cal sc (d + 3) 149 [.ref 203] (lm_w m1 n1 x) = some (.ok (some (.int (Int32.ofNat (lm_yb (lm_Hm C k G L (t + 1)))))), lm_w m2 n2 x) ∧ lm_cal sc (d + 3) 149 [.ref 203] (lm_w m2 n2 x) = some (.ok (some (.int (Int32.ofNat (lm_yb (lm_Hm C k G L (t + 2)))))), lm_w m3 n3 x) ∧ lm_rQ m3 n3 C k G L (t + 3) ∧ lm_fh m n m3 n3 := by
  obtain ⟨m1, n1, c1, s1, f1⟩ := lm_rSq (sc := sc) (d := d) (x := x) hC hk h2 hS
  obtain ⟨m2, n2, c2, s2, f2⟩ := lm_rSq (sc := sc) (d := d) (x := x) (f1.cx.trans hC) hk h2 s1
  obtain ⟨m3, n3, c3, s3, f3⟩ := lm_rSq (sc := sc) (d := d) (x := x) (f2.cx.trans (f1.cx.trans hC)) hk h2 s2
  exact ⟨m1, n1, m2, n2, m3, n3, c1, c2, c3, s3, f1.tr (f2.tr f3)⟩
def lm_I72 (C : lm_CX) (G : Nat → Int32) (p : Nat) (m0 : lm_MI) (n0 : lm_ML) (t : Nat) (m : lm_MI) (n : lm_ML) : Prop := (∀ q, q ≠ 203 → q ≠ 227 → q ≠ p → m q = m0 q) ∧ lm_fG m0 n0 m n ∧ lm_hl2 m p (lm_sm (lm_B11 C G) t) ∧ lm_rQ m n C 11 G 34 (3 * t)
theorem lm_l72s {t : Nat} (hC : lm_cx m0 n0 = C) (hp : lm_ar p = some (0, 256)) (hp3 : p ≠ 203 ∧ p ≠ 227 ∧ p ≠ 221) (ht : t < 280) (hs : (lm_sm (lm_B11 C G) t).1 < 256) (h : lm_I72 C G p m0 n0 t m n) : ∃ m' n', lm_I72 C G p m0 n0 (t + 1) m' n' ∧ ∀ R, lm_rn sc (d + 3) lm_m72.2.2.2.2.1 (lm_reg lm_m72.2.2.2.2.2) (36, [(0, .ref 203), (1, .ref p), (6, .int (Int32.ofNat (lm_sm (lm_B11 C G) (t + 1)).1)), (7, .int (Int32.ofNat (t + 1)))], []) (lm_w m' n' x) = some R → lm_rn sc (d + 3) lm_m72.2.2.2.2.1 (lm_reg lm_m72.2.2.2.2.2) (36, [(0, .ref 203), (1, .ref p), (6, .int (Int32.ofNat (lm_sm (lm_B11 C G) t).1)), (7, .int (Int32.ofNat t))], []) (lm_w m n x) = some R := by
  obtain ⟨g1, g2, g3, g4⟩ := h
  have hcx : lm_cx m n = C := (g2.cx (g1 221 (by decide) (by decide) (fun g => hp3.2.2 g.symm))).trans hC
  obtain ⟨m1, n1, m2, n2, m3, n3, c1, c2, c3, s3, f3⟩ := lm_rSq3 (sc := sc) (d := d) (x := x) hcx (by decide) (by decide) g4
  have es : lm_sm (lm_B11 C G) (t + 1) = lm_sm1 (lm_B11 C G (3 * t + 1) / 16 + 16 * lm_B11 C G (3 * t + 2)) (lm_sm1 (lm_B11 C G (3 * t) + 256 * (lm_B11 C G (3 * t + 1) % 16)) (lm_sm (lm_B11 C G) t)) := by
    show lm_sms _ _ _ (lm_sm (lm_B11 C G) t) = _
    unfold lm_sms
    rw [if_pos hs]
  have l0 : lm_B11 C G (3 * t) < 256 := lm_yb_lt _
  have l1 : lm_B11 C G (3 * t + 1) < 256 := lm_yb_lt _
  have l2 : lm_B11 C G (3 * t + 2) < 256 := lm_yb_lt _
  have eb0 : lm_yb (lm_Hm C 11 G 34 (3 * t)) = lm_B11 C G (3 * t) := rfl
  have eb1 : lm_yb (lm_Hm C 11 G 34 (3 * t + 1)) = lm_B11 C G (3 * t + 1) := rfl
  have eb2 : lm_yb (lm_Hm C 11 G 34 (3 * t + 2)) = lm_B11 C G (3 * t + 2) := rfl
  rw [eb0] at c1
  rw [eb1] at c2
  rw [eb2] at c3
  have gm : ∀ q, q ≠ 203 → q ≠ 227 → q ≠ p → m3 q = m0 q := fun q h1 h2 h3 => (f3.1 q h1 h2).trans (g1 q h1 h2 h3)
  have gG : lm_fG m0 n0 m3 n3 := g2.tr f3.G
  have gh : lm_hl2 m3 p (lm_sm (lm_B11 C G) t) := fun i hi => by rw [f3.1 p hp3.1 hp3.2.1]; exact g3 i hi
  generalize lm_B11 C G (3 * t) = b0 at *
  generalize lm_B11 C G (3 * t + 1) = b1 at *
  generalize lm_B11 C G (3 * t + 2) = b2 at *
  generalize esn : lm_sm (lm_B11 C G) t = s at *
  have wr : ∀ (mm : lm_MI) (i : Nat) (u : Int32), (∀ q, q ≠ 203 → q ≠ 227 → q ≠ p → mm q = m0 q) → lm_fG m0 n0 mm n3 → lm_rQ mm n3 C 11 G 34 (3 * t + 3) → (∀ q, q ≠ 203 → q ≠ 227 → q ≠ p → lm_u mm p i u q = m0 q) ∧ lm_fG m0 n0 (lm_u mm p i u) n3 ∧ lm_rQ (lm_u mm p i u) n3 C 11 G 34 (3 * t + 3) := by
    intro mm i u w1 w2 w3
    have e203 : lm_u mm p i u 203 = mm 203 := lm_u_row (fun g => hp3.1 g.symm)
    refine ⟨fun q h1 h2 h3 => (lm_u_row h3).trans (w1 q h1 h2 h3), w2.tr (.of e203), ?_⟩
    unfold lm_rQ
    rw [e203]
    exact w3
  have second : ∀ (s1 : Nat × (Nat → Nat)) (mm : lm_MI), s1.1 ≤ 256 → (∀ q, q ≠ 203 → q ≠ 227 → q ≠ p → mm q = m0 q) → lm_fG m0 n0 mm n3 → lm_rQ mm n3 C 11 G 34 (3 * t + 3) → lm_hl2 mm p s1 → ∃ m', (∀ q, q ≠ 203 → q ≠ 227 → q ≠ p → m' q = m0 q) ∧ lm_fG m0 n0 m' n3 ∧ lm_rQ m' n3 C 11 G 34 (3 * t + 3) ∧ lm_hl2 m' p (lm_sm1 (b1 / 16 + 16 * b2) s1) ∧ ∀ R, lm_rn sc (d + 3) lm_m72.2.2.2.2.1 (lm_reg lm_m72.2.2.2.2.2) (36, [(0, .ref 203), (1, .ref p), (6, .int (Int32.ofNat (lm_sm1 (b1 / 16 + 16 * b2) s1).1)), (7, .int (Int32.ofNat (t + 1)))], []) (lm_w m' n3 x) = some R → lm_rn sc (d + 3) lm_m72.2.2.2.2.1 (lm_reg lm_m72.2.2.2.2.2) (107, [(0, .ref 203), (1, .ref p), (6, .int (Int32.ofNat s1.1)), (7, .int (Int32.ofNat t)), (9, .int (Int32.ofNat b1)), (10, .int (Int32.ofNat b2))], []) (lm_w mm n3 x) = some R := by
    intro s1 mm hs1 w1 w2 w3 hh
    by_cases k2 : s1.1 < 256
    · by_cases k1 : b1 / 16 + 16 * b2 < 3329
      · obtain ⟨u1, u2, u3⟩ := wr mm s1.1 (Int32.ofNat (b1 / 16 + 16 * b2)) w1 w2 w3
        refine ⟨_, u1, u2, u3, lm_hl2_st hh ⟨k2, k1⟩, fun R K => lm_e72_107 ?_⟩
        unfold lm_q72_107
        rw [lm_K3329, lm_K256, lm_K16, lm_od (by omega) (by omega), lm_om, lm_oo]
        refine lm_geF (by omega) (by omega) (by omega) ?_
        repeat (first
    | ((with_reducible apply lm_sI); exact rfl)
    | ((with_reducible apply lm_sR); exact rfl)
    | ((with_reducible apply lm_sS); exact rfl; exact rfl)
    | ((with_reducible apply lm_sL); exact rfl)
    | ((with_reducible apply lm_sP); exact rfl; exact rfl)
    | ((with_reducible apply lm_sPL); exact rfl; exact rfl)
    | ((with_reducible apply lm_sAA); exact rfl; exact rfl)
    | ((with_reducible apply lm_sA); (first | exact rfl | assumption); omega)
    | ((with_reducible apply lm_sJ); (first | exact rfl | assumption); omega)
    | ((with_reducible apply lm_sB); (first | exact rfl | assumption); omega)
    | ((with_reducible apply lm_wA); (first | exact rfl | assumption); omega)
    | ((with_reducible apply lm_wJ); (first | exact rfl | assumption); omega)
    | ((with_reducible apply lm_wB); (first | exact rfl | assumption); omega)
    | ((with_reducible apply lm_sAl); (first | exact rfl | assumption); omega)
    | ((with_reducible apply lm_iW); decide))
        refine lm_geF (by omega) (by omega) (by omega) ?_
        repeat (first
    | ((with_reducible apply lm_sI); exact rfl)
    | ((with_reducible apply lm_sR); exact rfl)
    | ((with_reducible apply lm_sS); exact rfl; exact rfl)
    | ((with_reducible apply lm_sL); exact rfl)
    | ((with_reducible apply lm_sP); exact rfl; exact rfl)
    | ((with_reducible apply lm_sPL); exact rfl; exact rfl)
    | ((with_reducible apply lm_sAA); exact rfl; exact rfl)
    | ((with_reducible apply lm_sA); (first | exact rfl | assumption); omega)
    | ((with_reducible apply lm_sJ); (first | exact rfl | assumption); omega)
    | ((with_reducible apply lm_sB); (first | exact rfl | assumption); omega)
    | ((with_reducible apply lm_wA); (first | exact rfl | assumption); omega)
    | ((with_reducible apply lm_wJ); (first | exact rfl | assumption); omega)
    | ((with_reducible apply lm_wB); (first | exact rfl | assumption); omega)
    | ((with_reducible apply lm_sAl); (first | exact rfl | assumption); omega)
    | ((with_reducible apply lm_iW); decide))
        refine lm_e72_150 ?_
        unfold lm_q72_150
        rw [lm_K1, lm_oo, lm_oo]
        rw [show (lm_sm1 (b1 / 16 + 16 * b2) s1).1 = s1.1 + 1 by unfold lm_sm1; rw [if_pos ⟨k2, k1⟩]] at K
        exact K
      · have e1 : lm_sm1 (b1 / 16 + 16 * b2) s1 = s1 := by
          unfold lm_sm1
          rw [if_neg (fun g => k1 g.2)]
        rw [e1]
        refine ⟨mm, w1, w2, w3, hh, fun R K => lm_e72_107 ?_⟩
        unfold lm_q72_107
        rw [lm_K3329, lm_K256, lm_K16, lm_od (by omega) (by omega), lm_om, lm_oo]
        refine lm_geF (by omega) (by omega) (by omega) ?_
        repeat (first
    | ((with_reducible apply lm_sI); exact rfl)
    | ((with_reducible apply lm_sR); exact rfl)
    | ((with_reducible apply lm_sS); exact rfl; exact rfl)
    | ((with_reducible apply lm_sL); exact rfl)
    | ((with_reducible apply lm_sP); exact rfl; exact rfl)
    | ((with_reducible apply lm_sPL); exact rfl; exact rfl)
    | ((with_reducible apply lm_sAA); exact rfl; exact rfl)
    | ((with_reducible apply lm_sA); (first | exact rfl | assumption); omega)
    | ((with_reducible apply lm_sJ); (first | exact rfl | assumption); omega)
    | ((with_reducible apply lm_sB); (first | exact rfl | assumption); omega)
    | ((with_reducible apply lm_wA); (first | exact rfl | assumption); omega)
    | ((with_reducible apply lm_wJ); (first | exact rfl | assumption); omega)
    | ((with_reducible apply lm_wB); (first | exact rfl | assumption); omega)
    | ((with_reducible apply lm_sAl); (first | exact rfl | assumption); omega)
    | ((with_reducible apply lm_iW); decide))
        refine lm_geT (by omega) (by omega) (by omega) (lm_e72_150 ?_)
        unfold lm_q72_150
        rw [lm_K1, lm_oo]
        exact K
    · have e1 : lm_sm1 (b1 / 16 + 16 * b2) s1 = s1 := by
        unfold lm_sm1
        rw [if_neg (fun g => k2 g.1)]
      rw [e1]
      refine ⟨mm, w1, w2, w3, hh, fun R K => lm_e72_107 ?_⟩
      unfold lm_q72_107
      rw [lm_K256]
      refine lm_geT (by omega) (by omega) (by omega) (lm_e72_150 ?_)
      unfold lm_q72_150
      rw [lm_K1, lm_oo]
      exact K
  rw [es]
  by_cases c : b0 + 256 * (b1 % 16) < 3329
  · have e1 : (lm_sm1 (b0 + 256 * (b1 % 16)) s).1 = s.1 + 1 := by
      unfold lm_sm1
      rw [if_pos ⟨hs, c⟩]
    obtain ⟨u1, u2, u3⟩ := wr m3 s.1 (Int32.ofNat (b0 + 256 * (b1 % 16))) gm gG s3
    obtain ⟨m', a1, a2, a3, a4, a5⟩ := second _ _ (by rw [e1]; omega) u1 u2 u3 (lm_hl2_st gh ⟨hs, c⟩)
    refine ⟨m', n3, ⟨a1, a2, by rw [es]; exact a4, by rw [Nat.mul_add]; exact a3⟩, fun R K => lm_e72_36 ?_⟩
    have k2 := a5 R K
    rw [e1] at k2
    unfold lm_q72_36
    rw [lm_K280, lm_K256, lm_K16, lm_K3329]
    refine lm_geF (by omega) (by omega) (by omega) (lm_geF (by omega) (by omega) (by omega) ?_)
    repeat (first
    | ((with_reducible apply lm_sI); exact rfl)
    | ((with_reducible apply lm_sR); exact rfl)
    | ((with_reducible apply lm_sS); exact rfl; exact rfl)
    | ((with_reducible apply lm_sL); exact rfl)
    | ((with_reducible apply lm_sP); exact rfl; exact rfl)
    | ((with_reducible apply lm_sPL); exact rfl; exact rfl)
    | ((with_reducible apply lm_sAA); exact rfl; exact rfl)
    | ((with_reducible apply lm_sA); (first | exact rfl | assumption); omega)
    | ((with_reducible apply lm_sJ); (first | exact rfl | assumption); omega)
    | ((with_reducible apply lm_sB); (first | exact rfl | assumption); omega)
    | ((with_reducible apply lm_wA); (first | exact rfl | assumption); omega)
    | ((with_reducible apply lm_wJ); (first | exact rfl | assumption); omega)
    | ((with_reducible apply lm_wB); (first | exact rfl | assumption); omega)
    | ((with_reducible apply lm_sAl); (first | exact rfl | assumption); omega)
    | ((with_reducible apply lm_iW); decide))
    refine lm_cI c1 ?_
    repeat (first
    | ((with_reducible apply lm_sI); exact rfl)
    | ((with_reducible apply lm_sR); exact rfl)
    | ((with_reducible apply lm_sS); exact rfl; exact rfl)
    | ((with_reducible apply lm_sL); exact rfl)
    | ((with_reducible apply lm_sP); exact rfl; exact rfl)
    | ((with_reducible apply lm_sPL); exact rfl; exact rfl)
    | ((with_reducible apply lm_sAA); exact rfl; exact rfl)
    | ((with_reducible apply lm_sA); (first | exact rfl | assumption); omega)
    | ((with_reducible apply lm_sJ); (first | exact rfl | assumption); omega)
    | ((with_reducible apply lm_sB); (first | exact rfl | assumption); omega)
    | ((with_reducible apply lm_wA); (first | exact rfl | assumption); omega)
    | ((with_reducible apply lm_wJ); (first | exact rfl | assumption); omega)
    | ((with_reducible apply lm_wB); (first | exact rfl | assumption); omega)
    | ((with_reducible apply lm_sAl); (first | exact rfl | assumption); omega)
    | ((with_reducible apply lm_iW); decide))
    refine lm_cI c2 ?_
    repeat (first
    | ((with_reducible apply lm_sI); exact rfl)
    | ((with_reducible apply lm_sR); exact rfl)
    | ((with_reducible apply lm_sS); exact rfl; exact rfl)
    | ((with_reducible apply lm_sL); exact rfl)
    | ((with_reducible apply lm_sP); exact rfl; exact rfl)
    | ((with_reducible apply lm_sPL); exact rfl; exact rfl)
    | ((with_reducible apply lm_sAA); exact rfl; exact rfl)
    | ((with_reducible apply lm_sA); (first | exact rfl | assumption); omega)
    | ((with_reducible apply lm_sJ); (first | exact rfl | assumption); omega)
    | ((with_reducible apply lm_sB); (first | exact rfl | assumption); omega)
    | ((with_reducible apply lm_wA); (first | exact rfl | assumption); omega)
    | ((with_reducible apply lm_wJ); (first | exact rfl | assumption); omega)
    | ((with_reducible apply lm_wB); (first | exact rfl | assumption); omega)
    | ((with_reducible apply lm_sAl); (first | exact rfl | assumption); omega)
    | ((with_reducible apply lm_iW); decide))
    refine lm_cI c3 ?_
    rw [lm_orm (by omega) (by omega), lm_om, lm_oo]
    repeat (first
    | ((with_reducible apply lm_sI); exact rfl)
    | ((with_reducible apply lm_sR); exact rfl)
    | ((with_reducible apply lm_sS); exact rfl; exact rfl)
    | ((with_reducible apply lm_sL); exact rfl)
    | ((with_reducible apply lm_sP); exact rfl; exact rfl)
    | ((with_reducible apply lm_sPL); exact rfl; exact rfl)
    | ((with_reducible apply lm_sAA); exact rfl; exact rfl)
    | ((with_reducible apply lm_sA); (first | exact rfl | assumption); omega)
    | ((with_reducible apply lm_sJ); (first | exact rfl | assumption); omega)
    | ((with_reducible apply lm_sB); (first | exact rfl | assumption); omega)
    | ((with_reducible apply lm_wA); (first | exact rfl | assumption); omega)
    | ((with_reducible apply lm_wJ); (first | exact rfl | assumption); omega)
    | ((with_reducible apply lm_wB); (first | exact rfl | assumption); omega)
    | ((with_reducible apply lm_sAl); (first | exact rfl | assumption); omega)
    | ((with_reducible apply lm_iW); decide))
    refine lm_geF (by omega) (by omega) (by omega) ?_
    repeat (first
    | ((with_reducible apply lm_sI); exact rfl)
    | ((with_reducible apply lm_sR); exact rfl)
    | ((with_reducible apply lm_sS); exact rfl; exact rfl)
    | ((with_reducible apply lm_sL); exact rfl)
    | ((with_reducible apply lm_sP); exact rfl; exact rfl)
    | ((with_reducible apply lm_sPL); exact rfl; exact rfl)
    | ((with_reducible apply lm_sAA); exact rfl; exact rfl)
    | ((with_reducible apply lm_sA); (first | exact rfl | assumption); omega)
    | ((with_reducible apply lm_sJ); (first | exact rfl | assumption); omega)
    | ((with_reducible apply lm_sB); (first | exact rfl | assumption); omega)
    | ((with_reducible apply lm_wA); (first | exact rfl | assumption); omega)
    | ((with_reducible apply lm_wJ); (first | exact rfl | assumption); omega)
    | ((with_reducible apply lm_wB); (first | exact rfl | assumption); omega)
    | ((with_reducible apply lm_sAl); (first | exact rfl | assumption); omega)
    | ((with_reducible apply lm_iW); decide))
    rw [lm_K1, lm_oo]
    exact k2
  · have e1 : lm_sm1 (b0 + 256 * (b1 % 16)) s = s := by
      unfold lm_sm1
      rw [if_neg (fun g => c g.2)]
    rw [e1]
    obtain ⟨m', a1, a2, a3, a4, a5⟩ := second s m3 (by omega) gm gG s3 gh
    refine ⟨m', n3, ⟨a1, a2, by rw [es, e1]; exact a4, by rw [Nat.mul_add]; exact a3⟩, fun R K => lm_e72_36 ?_⟩
    unfold lm_q72_36
    rw [lm_K280, lm_K256, lm_K16, lm_K3329]
    refine lm_geF (by omega) (by omega) (by omega) (lm_geF (by omega) (by omega) (by omega) ?_)
    repeat (first
    | ((with_reducible apply lm_sI); exact rfl)
    | ((with_reducible apply lm_sR); exact rfl)
    | ((with_reducible apply lm_sS); exact rfl; exact rfl)
    | ((with_reducible apply lm_sL); exact rfl)
    | ((with_reducible apply lm_sP); exact rfl; exact rfl)
    | ((with_reducible apply lm_sPL); exact rfl; exact rfl)
    | ((with_reducible apply lm_sAA); exact rfl; exact rfl)
    | ((with_reducible apply lm_sA); (first | exact rfl | assumption); omega)
    | ((with_reducible apply lm_sJ); (first | exact rfl | assumption); omega)
    | ((with_reducible apply lm_sB); (first | exact rfl | assumption); omega)
    | ((with_reducible apply lm_wA); (first | exact rfl | assumption); omega)
    | ((with_reducible apply lm_wJ); (first | exact rfl | assumption); omega)
    | ((with_reducible apply lm_wB); (first | exact rfl | assumption); omega)
    | ((with_reducible apply lm_sAl); (first | exact rfl | assumption); omega)
    | ((with_reducible apply lm_iW); decide))
    refine lm_cI c1 ?_
    repeat (first
    | ((with_reducible apply lm_sI); exact rfl)
    | ((with_reducible apply lm_sR); exact rfl)
    | ((with_reducible apply lm_sS); exact rfl; exact rfl)
    | ((with_reducible apply lm_sL); exact rfl)
    | ((with_reducible apply lm_sP); exact rfl; exact rfl)
    | ((with_reducible apply lm_sPL); exact rfl; exact rfl)
    | ((with_reducible apply lm_sAA); exact rfl; exact rfl)
    | ((with_reducible apply lm_sA); (first | exact rfl | assumption); omega)
    | ((with_reducible apply lm_sJ); (first | exact rfl | assumption); omega)
    | ((with_reducible apply lm_sB); (first | exact rfl | assumption); omega)
    | ((with_reducible apply lm_wA); (first | exact rfl | assumption); omega)
    | ((with_reducible apply lm_wJ); (first | exact rfl | assumption); omega)
    | ((with_reducible apply lm_wB); (first | exact rfl | assumption); omega)
    | ((with_reducible apply lm_sAl); (first | exact rfl | assumption); omega)
    | ((with_reducible apply lm_iW); decide))
    refine lm_cI c2 ?_
    repeat (first
    | ((with_reducible apply lm_sI); exact rfl)
    | ((with_reducible apply lm_sR); exact rfl)
    | ((with_reducible apply lm_sS); exact rfl; exact rfl)
    | ((with_reducible apply lm_sL); exact rfl)
    | ((with_reducible apply lm_sP); exact rfl; exact rfl)
    | ((with_reducible apply lm_sPL); exact rfl; exact rfl)
    | ((with_reducible apply lm_sAA); exact rfl; exact rfl)
    | ((with_reducible apply lm_sA); (first | exact rfl | assumption); omega)
    | ((with_reducible apply lm_sJ); (first | exact rfl | assumption); omega)
    | ((with_reducible apply lm_sB); (first | exact rfl | assumption); omega)
    | ((with_reducible apply lm_wA); (first | exact rfl | assumption); omega)
    | ((with_reducible apply lm_wJ); (first | exact rfl | assumption); omega)
    | ((with_reducible apply lm_wB); (first | exact rfl | assumption); omega)
    | ((with_reducible apply lm_sAl); (first | exact rfl | assumption); omega)
    | ((with_reducible apply lm_iW); decide))
    refine lm_cI c3 ?_
    rw [lm_orm (by omega) (by omega), lm_om, lm_oo]
    repeat (first
    | ((with_reducible apply lm_sI); exact rfl)
    | ((with_reducible apply lm_sR); exact rfl)
    | ((with_reducible apply lm_sS); exact rfl; exact rfl)
    | ((with_reducible apply lm_sL); exact rfl)
    | ((with_reducible apply lm_sP); exact rfl; exact rfl)
    | ((with_reducible apply lm_sPL); exact rfl; exact rfl)
    | ((with_reducible apply lm_sAA); exact rfl; exact rfl)
    | ((with_reducible apply lm_sA); (first | exact rfl | assumption); omega)
    | ((with_reducible apply lm_sJ); (first | exact rfl | assumption); omega)
    | ((with_reducible apply lm_sB); (first | exact rfl | assumption); omega)
    | ((with_reducible apply lm_wA); (first | exact rfl | assumption); omega)
    | ((with_reducible apply lm_wJ); (first | exact rfl | assumption); omega)
    | ((with_reducible apply lm_wB); (first | exact rfl | assumption); omega)
    | ((with_reducible apply lm_sAl); (first | exact rfl | assumption); omega)
    | ((with_reducible apply lm_iW); decide))
    refine lm_geT (by omega) (by omega) (by omega) ?_
    exact a5 R K
theorem lm_l72 (hC : lm_cx m0 n0 = C) (hp : lm_ar p = some (0, 256)) (hp3 : p ≠ 203 ∧ p ≠ 227 ∧ p ≠ 221) : ∀ k t (m : lm_MI) (n : lm_ML), t + k = 280 → lm_I72 C G p m0 n0 t m n → ∃ m' n', (∀ q, q ≠ 203 → q ≠ 227 → q ≠ p → m' q = m0 q) ∧ lm_fG m0 n0 m' n' ∧ lm_hl2 m' p (lm_sm (lm_B11 C G) 280) ∧ ∀ R, lm_rn sc (d + 3) lm_m72.2.2.2.2.1 (lm_reg lm_m72.2.2.2.2.2) (156, [(6, .int (Int32.ofNat (lm_sm (lm_B11 C G) 280).1))], []) (lm_w m' n' x) = some R → lm_rn sc (d + 3) lm_m72.2.2.2.2.1 (lm_reg lm_m72.2.2.2.2.2) (36, [(0, .ref 203), (1, .ref p), (6, .int (Int32.ofNat (lm_sm (lm_B11 C G) t).1)), (7, .int (Int32.ofNat t))], []) (lm_w m n x) = some R := by
  intro k
  induction k with
  | zero =>
    intro t m n ht h
    have e : t = 280 := ht
    subst e
    refine ⟨m, n, h.1, h.2.1, h.2.2.1, fun R K => lm_e72_36 ?_⟩
    unfold lm_q72_36
    rw [lm_K280]
    exact lm_geT (by omega) (by omega) (by omega) K
  | succ k ih =>
    intro t m n ht h
    have hn := lm_sm_le (B := lm_B11 C G) t
    by_cases c : (lm_sm (lm_B11 C G) t).1 < 256
    · obtain ⟨m1, n1, h1, k1⟩ := lm_l72s (sc := sc) (x := x) (d := d) hC hp hp3 (by omega) c h
      obtain ⟨m2, n2, a1, a2, a3, a4⟩ := ih (t + 1) m1 n1 (by omega) h1
      exact ⟨m2, n2, a1, a2, a3, fun R K => k1 R (a4 R K)⟩
    · have e : lm_sm (lm_B11 C G) 280 = lm_sm (lm_B11 C G) t := by
        rw [← ht]
        exact lm_sm_st c _
      rw [e]
      refine ⟨m, n, h.1, h.2.1, h.2.2.1, fun R K => lm_e72_36 ?_⟩
      unfold lm_q72_36
      rw [lm_K280, lm_K256]
      exact lm_geF (by omega) (by omega) (by omega) (lm_geT (by omega) (by omega) (by omega) K)
/-- sample of the reference -/
theorem lm_u72 (hC : lm_cx m n = C) (hp : lm_ar p = some (0, 256)) (hp3 : p ≠ 203 ∧ p ≠ 227 ∧ p ≠ 221) (hq : lm_ar q = some (1, v)) (hv : v ≤ 70000) (hav : a + 32 ≤ v) (hq3 : q ≠ 203 ∧ q ≠ 227) : ∃ m' n', lm_cal sc (d + 5) 72 [.ref 203, .ref p, .ref q, .int (Int32.ofNat a), .int w1, .int w2] (lm_w m n x) = some (.ok (some (.int (lm_z (decide ((lm_sm (lm_B11 C (ln_gs (m q) a w1 w2)) 280).1 = 256))))), lm_w m' n' x) ∧ (∀ r, r ≠ 203 → r ≠ 227 → r ≠ p → m' r = m r) ∧ lm_fG m n m' n' ∧ lm_hl2 m' p (lm_sm (lm_B11 C (ln_gs (m q) a w1 w2)) 280) := by
  obtain ⟨m1, n1, k1, s1, f1⟩ := lm_rS (sc := sc) (d := d + 2) (x := x) (k := 11) (G := ln_gs (m q) a w1 w2) hC (by decide) (by decide)
  have C1 := f1.cx.trans hC
  obtain ⟨m2, n2, k2, s2, f2⟩ := lm_rA (sc := sc) (d := d) (x := x) (k := 11) (q := q) (v := v) (a := a) (l := 32) (L := 0) (G := ln_gs (m q) a w1 w2) C1 (by decide) hq3 hq hav hv (fun t ht => by
    rw [f1.1 q hq3.1 hq3.2, Nat.zero_add, ln_gs, if_pos ht]) s1
  have C2 := f2.cx.trans C1
  obtain ⟨m3, n3, k3, s3, f3⟩ := lm_rB (sc := sc) (d := d + 1) (x := x) (k := 11) (w := w1) (L := 0 + 32) (G := ln_gs (m q) a w1 w2) C2 (by decide) (by rw [ln_gs, if_neg (by decide), if_pos rfl]) s2
  have C3 := f3.cx.trans C2
  obtain ⟨m4, n4, k4, s4, f4⟩ := lm_rB (sc := sc) (d := d + 1) (x := x) (k := 11) (w := w2) (L := 0 + 32 + 1) (G := ln_gs (m q) a w1 w2) C3 (by decide) (by rw [ln_gs, if_neg (by decide), if_neg (by decide)]) s3
  have C4 := f4.cx.trans C3
  obtain ⟨m5, n5, k5, s5, f5⟩ := lm_rF (sc := sc) (d := d) (x := x) (k := 11) C4 (by decide) (by decide) s4
  have fh := f1.tr (f2.tr (f3.tr (f4.tr f5)))
  obtain ⟨m6, n6, a1, a2, a3, a4⟩ := lm_l72 (sc := sc) (d := d + 1) (x := x) (m0 := m) (n0 := n) (G := ln_gs (m q) a w1 w2) hC hp hp3 280 0 m5 n5 (by omega) ⟨fun r h1 h2 _ => fh.1 r h1 h2, fh.G, fun i hi => absurd hi (by show ¬ i < 0; omega), s5⟩
  refine ⟨m6, n6, ?_, a1, a2, a3⟩
  refine lm_cal_of (Y := lm_m72) rfl rfl (lm_e72_0 ?_)
  unfold lm_q72_0
  rw [lm_K11, lm_K32, lm_K0]
  repeat (first
    | ((with_reducible apply lm_sI); exact rfl)
    | ((with_reducible apply lm_sR); exact rfl)
    | ((with_reducible apply lm_sS); exact rfl; exact rfl)
    | ((with_reducible apply lm_sL); exact rfl)
    | ((with_reducible apply lm_sP); exact rfl; exact rfl)
    | ((with_reducible apply lm_sPL); exact rfl; exact rfl)
    | ((with_reducible apply lm_sAA); exact rfl; exact rfl)
    | ((with_reducible apply lm_sA); (first | exact rfl | assumption); omega)
    | ((with_reducible apply lm_sJ); (first | exact rfl | assumption); omega)
    | ((with_reducible apply lm_sB); (first | exact rfl | assumption); omega)
    | ((with_reducible apply lm_wA); (first | exact rfl | assumption); omega)
    | ((with_reducible apply lm_wJ); (first | exact rfl | assumption); omega)
    | ((with_reducible apply lm_wB); (first | exact rfl | assumption); omega)
    | ((with_reducible apply lm_sAl); (first | exact rfl | assumption); omega)
    | ((with_reducible apply lm_iW); decide))
  refine lm_cV k1 ?_
  repeat (first
    | ((with_reducible apply lm_sI); exact rfl)
    | ((with_reducible apply lm_sR); exact rfl)
    | ((with_reducible apply lm_sS); exact rfl; exact rfl)
    | ((with_reducible apply lm_sL); exact rfl)
    | ((with_reducible apply lm_sP); exact rfl; exact rfl)
    | ((with_reducible apply lm_sPL); exact rfl; exact rfl)
    | ((with_reducible apply lm_sAA); exact rfl; exact rfl)
    | ((with_reducible apply lm_sA); (first | exact rfl | assumption); omega)
    | ((with_reducible apply lm_sJ); (first | exact rfl | assumption); omega)
    | ((with_reducible apply lm_sB); (first | exact rfl | assumption); omega)
    | ((with_reducible apply lm_wA); (first | exact rfl | assumption); omega)
    | ((with_reducible apply lm_wJ); (first | exact rfl | assumption); omega)
    | ((with_reducible apply lm_wB); (first | exact rfl | assumption); omega)
    | ((with_reducible apply lm_sAl); (first | exact rfl | assumption); omega)
    | ((with_reducible apply lm_iW); decide))
  refine lm_cV k2 ?_
  repeat (first
    | ((with_reducible apply lm_sI); exact rfl)
    | ((with_reducible apply lm_sR); exact rfl)
    | ((with_reducible apply lm_sS); exact rfl; exact rfl)
    | ((with_reducible apply lm_sL); exact rfl)
    | ((with_reducible apply lm_sP); exact rfl; exact rfl)
    | ((with_reducible apply lm_sPL); exact rfl; exact rfl)
    | ((with_reducible apply lm_sAA); exact rfl; exact rfl)
    | ((with_reducible apply lm_sA); (first | exact rfl | assumption); omega)
    | ((with_reducible apply lm_sJ); (first | exact rfl | assumption); omega)
    | ((with_reducible apply lm_sB); (first | exact rfl | assumption); omega)
    | ((with_reducible apply lm_wA); (first | exact rfl | assumption); omega)
    | ((with_reducible apply lm_wJ); (first | exact rfl | assumption); omega)
    | ((with_reducible apply lm_wB); (first | exact rfl | assumption); omega)
    | ((with_reducible apply lm_sAl); (first | exact rfl | assumption); omega)
    | ((with_reducible apply lm_iW); decide))
  refine lm_cV k3 ?_
  repeat (first
    | ((with_reducible apply lm_sI); exact rfl)
    | ((with_reducible apply lm_sR); exact rfl)
    | ((with_reducible apply lm_sS); exact rfl; exact rfl)
    | ((with_reducible apply lm_sL); exact rfl)
    | ((with_reducible apply lm_sP); exact rfl; exact rfl)
    | ((with_reducible apply lm_sPL); exact rfl; exact rfl)
    | ((with_reducible apply lm_sAA); exact rfl; exact rfl)
    | ((with_reducible apply lm_sA); (first | exact rfl | assumption); omega)
    | ((with_reducible apply lm_sJ); (first | exact rfl | assumption); omega)
    | ((with_reducible apply lm_sB); (first | exact rfl | assumption); omega)
    | ((with_reducible apply lm_wA); (first | exact rfl | assumption); omega)
    | ((with_reducible apply lm_wJ); (first | exact rfl | assumption); omega)
    | ((with_reducible apply lm_wB); (first | exact rfl | assumption); omega)
    | ((with_reducible apply lm_sAl); (first | exact rfl | assumption); omega)
    | ((with_reducible apply lm_iW); decide))
  refine lm_cV k4 ?_
  repeat (first
    | ((with_reducible apply lm_sI); exact rfl)
    | ((with_reducible apply lm_sR); exact rfl)
    | ((with_reducible apply lm_sS); exact rfl; exact rfl)
    | ((with_reducible apply lm_sL); exact rfl)
    | ((with_reducible apply lm_sP); exact rfl; exact rfl)
    | ((with_reducible apply lm_sPL); exact rfl; exact rfl)
    | ((with_reducible apply lm_sAA); exact rfl; exact rfl)
    | ((with_reducible apply lm_sA); (first | exact rfl | assumption); omega)
    | ((with_reducible apply lm_sJ); (first | exact rfl | assumption); omega)
    | ((with_reducible apply lm_sB); (first | exact rfl | assumption); omega)
    | ((with_reducible apply lm_wA); (first | exact rfl | assumption); omega)
    | ((with_reducible apply lm_wJ); (first | exact rfl | assumption); omega)
    | ((with_reducible apply lm_wB); (first | exact rfl | assumption); omega)
    | ((with_reducible apply lm_sAl); (first | exact rfl | assumption); omega)
    | ((with_reducible apply lm_iW); decide))
  refine lm_cV k5 ?_
  refine a4 _ (lm_e72_156 ?_)
  have hn := lm_sm_le (B := lm_B11 C (ln_gs (m q) a w1 w2)) 280
  unfold lm_q72_156
  rw [lm_K256]
  by_cases c : (lm_sm (lm_B11 C (ln_gs (m q) a w1 w2)) 280).1 = 256
  · rw [decide_eq_true c]
    refine lm_neF (by omega) (by omega) (fun g => g c) ?_
    repeat (first
    | ((with_reducible apply lm_sI); exact rfl)
    | ((with_reducible apply lm_sR); exact rfl)
    | ((with_reducible apply lm_sS); exact rfl; exact rfl)
    | ((with_reducible apply lm_sL); exact rfl)
    | ((with_reducible apply lm_sP); exact rfl; exact rfl)
    | ((with_reducible apply lm_sPL); exact rfl; exact rfl)
    | ((with_reducible apply lm_sAA); exact rfl; exact rfl)
    | ((with_reducible apply lm_sA); (first | exact rfl | assumption); omega)
    | ((with_reducible apply lm_sJ); (first | exact rfl | assumption); omega)
    | ((with_reducible apply lm_sB); (first | exact rfl | assumption); omega)
    | ((with_reducible apply lm_wA); (first | exact rfl | assumption); omega)
    | ((with_reducible apply lm_wJ); (first | exact rfl | assumption); omega)
    | ((with_reducible apply lm_wB); (first | exact rfl | assumption); omega)
    | ((with_reducible apply lm_sAl); (first | exact rfl | assumption); omega)
    | ((with_reducible apply lm_iW); decide))
    rfl
  · rw [decide_eq_false c]
    refine lm_neT (by omega) (by omega) c ?_
    repeat (first
    | ((with_reducible apply lm_sI); exact rfl)
    | ((with_reducible apply lm_sR); exact rfl)
    | ((with_reducible apply lm_sS); exact rfl; exact rfl)
    | ((with_reducible apply lm_sL); exact rfl)
    | ((with_reducible apply lm_sP); exact rfl; exact rfl)
    | ((with_reducible apply lm_sPL); exact rfl; exact rfl)
    | ((with_reducible apply lm_sAA); exact rfl; exact rfl)
    | ((with_reducible apply lm_sA); (first | exact rfl | assumption); omega)
    | ((with_reducible apply lm_sJ); (first | exact rfl | assumption); omega)
    | ((with_reducible apply lm_sB); (first | exact rfl | assumption); omega)
    | ((with_reducible apply lm_wA); (first | exact rfl | assumption); omega)
    | ((with_reducible apply lm_wJ); (first | exact rfl | assumption); omega)
    | ((with_reducible apply lm_wB); (first | exact rfl | assumption); omega)
    | ((with_reducible apply lm_sAl); (first | exact rfl | assumption); omega)
    | ((with_reducible apply lm_iW); decide))
    rfl
end LMSR
