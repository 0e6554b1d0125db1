/-! ===== Dsa: sampleSmall of the reference ===== -/
section LMSG
variable {sc : lm_H} {C : lm_CX} {d p q v a e : Nat} {m m0 : lm_MI} {n n0 : lm_ML} {x : lm_H × Nat × Nat} {G : Nat → Int32} {w : Int32}
def lm_s9 (e z : Nat) : Int := if z < lm_sl e then lm_sv' e z else 9
theorem lm_u167 {z : Nat} (he : e = 2 ∨ e = 4) (h43 : m 203 43 = Int32.ofNat e) (hz : z < 16) : lm_cal sc (d + 1) 167 [.ref 203, .int (Int32.ofNat z)] (lm_w m n x) = some (.ok (some (.int (Int32.ofInt (lm_s9 e z)))), lm_w m n x) := by
  refine lm_cal_of (Y := lm_m167) rfl rfl (lm_e167_0 ?_)
  unfold lm_q167_0
  repeat (first
    | ((with_reducible apply lm_sI); exact rfl)
    | ((with_reducible apply lm_sR); exact rfl)
    | ((with_reducible apply lm_sS); exact rfl; exact rfl)
    | ((with_reducible apply lm_sL); exact rfl)
    | ((with_reducible apply lm_sP); exact rfl; exact rfl)
    | ((with_reducible apply lm_sPL); exact rfl; exact rfl)
    | ((with_reducible apply lm_sAA); exact rfl; exact rfl)
    | ((with_reducible apply lm_sA); (first | exact rfl | assumption); omega)
    | ((with_reducible apply lm_sJ); (first | exact rfl | assumption); omega)
    | ((with_reducible apply lm_sB); (first | exact rfl | assumption); omega)
    | ((with_reducible apply lm_wA); (first | exact rfl | assumption); omega)
    | ((with_reducible apply lm_wJ); (first | exact rfl | assumption); omega)
    | ((with_reducible apply lm_wB); (first | exact rfl | assumption); omega)
    | ((with_reducible apply lm_sAl); (first | exact rfl | assumption); omega)
    | ((with_reducible apply lm_iW); decide))
  simp only [Nat.reduceDiv, Nat.reduceMod]
  rw [h43, lm_K2]
  unfold lm_s9 lm_sl lm_sv'
  rcases he with e0 | e0
  · subst e0
    refine lm_neF (by decide) (by decide) (fun g => g rfl) ?_
    rw [if_pos rfl, if_pos rfl, show Int32.ofInt 15 = Int32.ofNat 15 from rfl]
    by_cases c : z < 15
    · rw [if_pos c]
      refine lm_geF (by omega) (by omega) (by omega) (lm_iW (by decide) ?_)
      rw [lm_K5, lm_orm (by omega) (by omega), lm_oN 2, lm_oN (z % 5), lm_iS]
      rfl
    · rw [if_neg c]
      refine lm_geT (by omega) (by omega) (by omega) ?_
      rfl
  · subst e0
    refine lm_neT (by decide) (by decide) (by decide) ?_
    rw [if_neg (show ¬ (4 : Nat) = 2 by decide), if_neg (show ¬ (4 : Nat) = 2 by decide), show Int32.ofInt 9 = Int32.ofNat 9 from rfl]
    by_cases c : z < 9
    · rw [if_pos c]
      refine lm_geF (by omega) (by omega) (by omega) ?_
      rw [lm_oN z, lm_iS]
      rfl
    · rw [if_neg c]
      refine lm_geT (by omega) (by omega) (by omega) ?_
      rfl
theorem lm_s9_lt {z : Nat} (he : e = 2 ∨ e = 4) (h : z < lm_sl e) : ¬ Int32.ofInt 9 ≤ Int32.ofInt (lm_s9 e z) := by
  have b := lm_sv_b he h
  unfold lm_s9
  rw [if_pos h, Int32.le_iff_toInt_le, lm_iT0 (by decide) (by decide), lm_iT0 (by omega) (by omega)]
  omega
theorem lm_s9_ge {z : Nat} (h : ¬ z < lm_sl e) : Int32.ofInt 9 ≤ Int32.ofInt (lm_s9 e z) := by
  unfold lm_s9
  rw [if_neg h]
  decide
theorem lm_s4_2 {B : Nat → Nat} {t : Nat} (hb : B t < 256) : lm_s4 e B (2 * (t + 1)) = lm_s41 e (B t / 16) (lm_s41 e (B t % 16) (lm_s4 e B (2 * t))) := by
  show lm_s41 e (B ((2 * t + 1) / 2) / 2 ^ (4 * ((2 * t + 1) % 2)) % 16) (lm_s41 e (B ((2 * t) / 2) / 2 ^ (4 * ((2 * t) % 2)) % 16) (lm_s4 e B (2 * t))) = _
  rw [show (2 * t + 1) / 2 = t by omega, show (2 * t) / 2 = t by omega, show (2 * t + 1) % 2 = 1 by omega, show (2 * t) % 2 = 0 by omega, show 2 ^ (4 * 1) = 16 from rfl, show 2 ^ (4 * 0) = 1 from rfl, Nat.div_one, Nat.mod_eq_of_lt (show B t / 16 < 16 by omega)]
def lm_I87 (C : lm_CX) (G : Nat → Int32) (e p : Nat) (m0 : lm_MI) (n0 : lm_ML) (t : Nat) (m : lm_MI) (n : lm_ML) : Prop := (∀ q, q ≠ 203 → q ≠ 227 → q ≠ p → m q = m0 q) ∧ lm_fG m0 n0 m n ∧ lm_hl3 m p (lm_s4 e (lm_B12 C G) (2 * t)) ∧ lm_rQ m n C 12 G 66 t
theorem lm_l87s {t : Nat} (hC : lm_cx m0 n0 = C) (he : e = 2 ∨ e = 4) (h43 : m0 203 43 = Int32.ofNat e) (hp : lm_ar p = some (0, 256)) (hp3 : p ≠ 203 ∧ p ≠ 227 ∧ p ≠ 221) (ht : t < 481) (hs : (lm_s4 e (lm_B12 C G) (2 * t)).1 < 256) (h : lm_I87 C G e p m0 n0 t m n) : ∃ m' n', lm_I87 C G e p m0 n0 (t + 1) m' n' ∧ ∀ R, lm_rn sc (d + 3) lm_m87.2.2.2.2.1 (lm_reg lm_m87.2.2.2.2.2) (39, [(0, .ref 203), (1, .ref p), (5, .int (Int32.ofNat (lm_s4 e (lm_B12 C G) (2 * (t + 1))).1)), (6, .int (Int32.ofNat (t + 1)))], []) (lm_w m' n' x) = some R → lm_rn sc (d + 3) lm_m87.2.2.2.2.1 (lm_reg lm_m87.2.2.2.2.2) (39, [(0, .ref 203), (1, .ref p), (5, .int (Int32.ofNat (lm_s4 e (lm_B12 C G) (2 * t)).1)), (6, .int (Int32.ofNat t))], []) (lm_w m n x) = some R := by
  obtain ⟨g1, g2, g3, g4⟩ := h
  have hcx : lm_cx m n = C := (g2.cx (g1 221 (by decide) (by decide) (fun g => hp3.2.2 g.symm))).trans hC
  obtain ⟨m3, n3, c3, s3, f3⟩ := lm_rSq (sc := sc) (d := d) (x := x) hcx (by decide) (by decide) g4
  have es := lm_s4_2 (e := e) (B := lm_B12 C G) (t := t) (lm_yb_lt _)
  have l0 : lm_B12 C G t < 256 := lm_yb_lt _
  have eb0 : lm_yb (lm_Hm C 12 G 66 t) = lm_B12 C G t := rfl
  rw [eb0] at c3
  have gm : ∀ q, q ≠ 203 → q ≠ 227 → q ≠ p → m3 q = m0 q := fun q h1 h2 h3 => (f3.1 q h1 h2).trans (g1 q h1 h2 h3)
  have gG : lm_fG m0 n0 m3 n3 := g2.tr f3.G
  have gh : lm_hl3 m3 p (lm_s4 e (lm_B12 C G) (2 * t)) := fun i hi => by rw [f3.1 p hp3.1 hp3.2.1]; exact g3 i hi
  generalize lm_B12 C G t = b at *
  generalize esn : lm_s4 e (lm_B12 C G) (2 * t) = s at *
  have z1 : b % 16 < 16 := Nat.mod_lt _ (by decide)
  have z2 : b / 16 < 16 := by omega
  have e43 : ∀ mm : lm_MI, lm_fG m0 n0 mm n3 → mm 203 43 = Int32.ofNat e := fun mm hm => by rw [hm.1 43 (by decide) (by decide) (by decide)]; exact h43
  have wr : ∀ (mm : lm_MI) (i : Nat) (u : Int32), (∀ q, q ≠ 203 → q ≠ 227 → q ≠ p → mm q = m0 q) → lm_fG m0 n0 mm n3 → lm_rQ mm n3 C 12 G 66 (t + 1) → (∀ q, q ≠ 203 → q ≠ 227 → q ≠ p → lm_u mm p i u q = m0 q) ∧ lm_fG m0 n0 (lm_u mm p i u) n3 ∧ lm_rQ (lm_u mm p i u) n3 C 12 G 66 (t + 1) := by
    intro mm i u w1 w2 w3
    have e203 : lm_u mm p i u 203 = mm 203 := lm_u_row (fun g => hp3.1 g.symm)
    refine ⟨fun q h1 h2 h3 => (lm_u_row h3).trans (w1 q h1 h2 h3), w2.tr (.of e203), ?_⟩
    unfold lm_rQ
    rw [e203]
    exact w3
  have second : ∀ (s1 : Nat × (Nat → Int)) (mm : lm_MI), s1.1 ≤ 256 → (∀ q, q ≠ 203 → q ≠ 227 → q ≠ p → mm q = m0 q) → lm_fG m0 n0 mm n3 → lm_rQ mm n3 C 12 G 66 (t + 1) → lm_hl3 mm p s1 → ∃ m', (∀ q, q ≠ 203 → q ≠ 227 → q ≠ p → m' q = m0 q) ∧ lm_fG m0 n0 m' n3 ∧ lm_rQ m' n3 C 12 G 66 (t + 1) ∧ lm_hl3 m' p (lm_s41 e (b / 16) s1) ∧ ∀ R, lm_rn sc (d + 3) lm_m87.2.2.2.2.1 (lm_reg lm_m87.2.2.2.2.2) (39, [(0, .ref 203), (1, .ref p), (5, .int (Int32.ofNat (lm_s41 e (b / 16) s1).1)), (6, .int (Int32.ofNat (t + 1)))], []) (lm_w m' n3 x) = some R → lm_rn sc (d + 3) lm_m87.2.2.2.2.1 (lm_reg lm_m87.2.2.2.2.2) (91, [(0, .ref 203), (1, .ref p), (5, .int (Int32.ofNat s1.1)), (6, .int (Int32.ofNat t)), (7, .int (Int32.ofNat b))], []) (lm_w mm n3 x) = some R := by
    intro s1 mm hs1 w1 w2 w3 hh
    have c1 := lm_u167 (sc := sc) (d := d + 2) (m := mm) (n := n3) (x := x) he (e43 mm w2) z2
    have esh : Int32.ofNat b >>> ((Int32.ofInt 4) &&& 31) = Int32.ofNat (b / 16) := lm_srN (a := b) (b := 4) (by decide) (by omega)
    by_cases k2 : s1.1 < 256
    · by_cases k1 : b / 16 < lm_sl e
      · obtain ⟨u1, u2, u3⟩ := wr mm s1.1 (Int32.ofInt (lm_s9 e (b / 16))) w1 w2 w3
        have ev : lm_s9 e (b / 16) = lm_sv' e (b / 16) := if_pos k1
        refine ⟨_, u1, u2, u3, by rw [ev]; exact lm_hl3_st hh ⟨k2, k1⟩, fun R K => lm_e87_91 ?_⟩
        unfold lm_q87_91
        rw [lm_K256, esh]
        refine lm_geF (by omega) (by omega) (by omega) ?_
        repeat (first
    | ((with_reducible apply lm_sI); exact rfl)
    | ((with_reducible apply lm_sR); exact rfl)
    | ((with_reducible apply lm_sS); exact rfl; exact rfl)
    | ((with_reducible apply lm_sL); exact rfl)
    | ((with_reducible apply lm_sP); exact rfl; exact rfl)
    | ((with_reducible apply lm_sPL); exact rfl; exact rfl)
    | ((with_reducible apply lm_sAA); exact rfl; exact rfl)
    | ((with_reducible apply lm_sA); (first | exact rfl | assumption); omega)
    | ((with_reducible apply lm_sJ); (first | exact rfl | assumption); omega)
    | ((with_reducible apply lm_sB); (first | exact rfl | assumption); omega)
    | ((with_reducible apply lm_wA); (first | exact rfl | assumption); omega)
    | ((with_reducible apply lm_wJ); (first | exact rfl | assumption); omega)
    | ((with_reducible apply lm_wB); (first | exact rfl | assumption); omega)
    | ((with_reducible apply lm_sAl); (first | exact rfl | assumption); omega)
    | ((with_reducible apply lm_iW); decide))
        refine lm_cI c1 ?_
        refine lm_iF (lm_s9_lt he k1) ?_
        repeat (first
    | ((with_reducible apply lm_sI); exact rfl)
    | ((with_reducible apply lm_sR); exact rfl)
    | ((with_reducible apply lm_sS); exact rfl; exact rfl)
    | ((with_reducible apply lm_sL); exact rfl)
    | ((with_reducible apply lm_sP); exact rfl; exact rfl)
    | ((with_reducible apply lm_sPL); exact rfl; exact rfl)
    | ((with_reducible apply lm_sAA); exact rfl; exact rfl)
    | ((with_reducible apply lm_sA); (first | exact rfl | assumption); omega)
    | ((with_reducible apply lm_sJ); (first | exact rfl | assumption); omega)
    | ((with_reducible apply lm_sB); (first | exact rfl | assumption); omega)
    | ((with_reducible apply lm_wA); (first | exact rfl | assumption); omega)
    | ((with_reducible apply lm_wJ); (first | exact rfl | assumption); omega)
    | ((with_reducible apply lm_wB); (first | exact rfl | assumption); omega)
    | ((with_reducible apply lm_sAl); (first | exact rfl | assumption); omega)
    | ((with_reducible apply lm_iW); decide))
        refine lm_cI c1 ?_
        repeat (first
    | ((with_reducible apply lm_sI); exact rfl)
    | ((with_reducible apply lm_sR); exact rfl)
    | ((with_reducible apply lm_sS); exact rfl; exact rfl)
    | ((with_reducible apply lm_sL); exact rfl)
    | ((with_reducible apply lm_sP); exact rfl; exact rfl)
    | ((with_reducible apply lm_sPL); exact rfl; exact rfl)
    | ((with_reducible apply lm_sAA); exact rfl; exact rfl)
    | ((with_reducible apply lm_sA); (first | exact rfl | assumption); omega)
    | ((with_reducible apply lm_sJ); (first | exact rfl | assumption); omega)
    | ((with_reducible apply lm_sB); (first | exact rfl | assumption); omega)
    | ((with_reducible apply lm_wA); (first | exact rfl | assumption); omega)
    | ((with_reducible apply lm_wJ); (first | exact rfl | assumption); omega)
    | ((with_reducible apply lm_wB); (first | exact rfl | assumption); omega)
    | ((with_reducible apply lm_sAl); (first | exact rfl | assumption); omega)
    | ((with_reducible apply lm_iW); decide))
        refine lm_e87_127 ?_
        unfold lm_q87_127
        rw [lm_K1, lm_oo, lm_oo]
        rw [show (lm_s41 e (b / 16) s1).1 = s1.1 + 1 by unfold lm_s41; rw [if_pos ⟨k2, k1⟩]] at K
        exact K
      · have e1 : lm_s41 e (b / 16) s1 = s1 := by
          unfold lm_s41
          rw [if_neg (fun g => k1 g.2)]
        rw [e1]
        refine ⟨mm, w1, w2, w3, hh, fun R K => lm_e87_91 ?_⟩
        unfold lm_q87_91
        rw [lm_K256, esh]
        refine lm_geF (by omega) (by omega) (by omega) ?_
        repeat (first
    | ((with_reducible apply lm_sI); exact rfl)
    | ((with_reducible apply lm_sR); exact rfl)
    | ((with_reducible apply lm_sS); exact rfl; exact rfl)
    | ((with_reducible apply lm_sL); exact rfl)
    | ((with_reducible apply lm_sP); exact rfl; exact rfl)
    | ((with_reducible apply lm_sPL); exact rfl; exact rfl)
    | ((with_reducible apply lm_sAA); exact rfl; exact rfl)
    | ((with_reducible apply lm_sA); (first | exact rfl | assumption); omega)
    | ((with_reducible apply lm_sJ); (first | exact rfl | assumption); omega)
    | ((with_reducible apply lm_sB); (first | exact rfl | assumption); omega)
    | ((with_reducible apply lm_wA); (first | exact rfl | assumption); omega)
    | ((with_reducible apply lm_wJ); (first | exact rfl | assumption); omega)
    | ((with_reducible apply lm_wB); (first | exact rfl | assumption); omega)
    | ((with_reducible apply lm_sAl); (first | exact rfl | assumption); omega)
    | ((with_reducible apply lm_iW); decide))
        refine lm_cI c1 ?_
        refine lm_iT (lm_s9_ge k1) (lm_e87_127 ?_)
        unfold lm_q87_127
        rw [lm_K1, lm_oo]
        exact K
    · have e1 : lm_s41 e (b / 16) s1 = s1 := by
        unfold lm_s41
        rw [if_neg (fun g => k2 g.1)]
      rw [e1]
      refine ⟨mm, w1, w2, w3, hh, fun R K => lm_e87_91 ?_⟩
      unfold lm_q87_91
      rw [lm_K256]
      refine lm_geT (by omega) (by omega) (by omega) (lm_e87_127 ?_)
      unfold lm_q87_127
      rw [lm_K1, lm_oo]
      exact K
  have c1 := lm_u167 (sc := sc) (d := d + 2) (m := m3) (n := n3) (x := x) he (e43 m3 gG) z1
  have ean : Int32.ofNat b &&& Int32.ofInt 15 = Int32.ofNat (b % 16) := lm_andm (a := b) (k := 4) (by omega) (by decide)
  rw [es]
  by_cases c : b % 16 < lm_sl e
  · have e1 : (lm_s41 e (b % 16) s).1 = s.1 + 1 := by
      unfold lm_s41
      rw [if_pos ⟨hs, c⟩]
    have ev : lm_s9 e (b % 16) = lm_sv' e (b % 16) := if_pos c
    obtain ⟨u1, u2, u3⟩ := wr m3 s.1 (Int32.ofInt (lm_sv' e (b % 16))) gm gG s3
    obtain ⟨m', a1, a2, a3, a4, a5⟩ := second _ _ (by rw [e1]; omega) u1 u2 u3 (lm_hl3_st gh ⟨hs, c⟩)
    refine ⟨m', n3, ⟨a1, a2, by rw [es]; exact a4, a3⟩, fun R K => lm_e87_39 ?_⟩
    have k2 := a5 R K
    rw [e1, ← ev] at k2
    unfold lm_q87_39
    rw [show Int32.ofInt 481 = Int32.ofNat 481 from rfl, lm_K256]
    refine lm_geF (by omega) (by omega) (by omega) (lm_geF (by omega) (by omega) (by omega) ?_)
    repeat (first
    | ((with_reducible apply lm_sI); exact rfl)
    | ((with_reducible apply lm_sR); exact rfl)
    | ((with_reducible apply lm_sS); exact rfl; exact rfl)
    | ((with_reducible apply lm_sL); exact rfl)
    | ((with_reducible apply lm_sP); exact rfl; exact rfl)
    | ((with_reducible apply lm_sPL); exact rfl; exact rfl)
    | ((with_reducible apply lm_sAA); exact rfl; exact rfl)
    | ((with_reducible apply lm_sA); (first | exact rfl | assumption); omega)
    | ((with_reducible apply lm_sJ); (first | exact rfl | assumption); omega)
    | ((with_reducible apply lm_sB); (first | exact rfl | assumption); omega)
    | ((with_reducible apply lm_wA); (first | exact rfl | assumption); omega)
    | ((with_reducible apply lm_wJ); (first | exact rfl | assumption); omega)
    | ((with_reducible apply lm_wB); (first | exact rfl | assumption); omega)
    | ((with_reducible apply lm_sAl); (first | exact rfl | assumption); omega)
    | ((with_reducible apply lm_iW); decide))
    refine lm_cI c3 ?_
    rw [ean]
    repeat (first
    | ((with_reducible apply lm_sI); exact rfl)
    | ((with_reducible apply lm_sR); exact rfl)
    | ((with_reducible apply lm_sS); exact rfl; exact rfl)
    | ((with_reducible apply lm_sL); exact rfl)
    | ((with_reducible apply lm_sP); exact rfl; exact rfl)
    | ((with_reducible apply lm_sPL); exact rfl; exact rfl)
    | ((with_reducible apply lm_sAA); exact rfl; exact rfl)
    | ((with_reducible apply lm_sA); (first | exact rfl | assumption); omega)
    | ((with_reducible apply lm_sJ); (first | exact rfl | assumption); omega)
    | ((with_reducible apply lm_sB); (first | exact rfl | assumption); omega)
    | ((with_reducible apply lm_wA); (first | exact rfl | assumption); omega)
    | ((with_reducible apply lm_wJ); (first | exact rfl | assumption); omega)
    | ((with_reducible apply lm_wB); (first | exact rfl | assumption); omega)
    | ((with_reducible apply lm_sAl); (first | exact rfl | assumption); omega)
    | ((with_reducible apply lm_iW); decide))
    refine lm_cI c1 ?_
    refine lm_iF (lm_s9_lt he c) ?_
    repeat (first
    | ((with_reducible apply lm_sI); exact rfl)
    | ((with_reducible apply lm_sR); exact rfl)
    | ((with_reducible apply lm_sS); exact rfl; exact rfl)
    | ((with_reducible apply lm_sL); exact rfl)
    | ((with_reducible apply lm_sP); exact rfl; exact rfl)
    | ((with_reducible apply lm_sPL); exact rfl; exact rfl)
    | ((with_reducible apply lm_sAA); exact rfl; exact rfl)
    | ((with_reducible apply lm_sA); (first | exact rfl | assumption); omega)
    | ((with_reducible apply lm_sJ); (first | exact rfl | assumption); omega)
    | ((with_reducible apply lm_sB); (first | exact rfl | assumption); omega)
    | ((with_reducible apply lm_wA); (first | exact rfl | assumption); omega)
    | ((with_reducible apply lm_wJ); (first | exact rfl | assumption); omega)
    | ((with_reducible apply lm_wB); (first | exact rfl | assumption); omega)
    | ((with_reducible apply lm_sAl); (first | exact rfl | assumption); omega)
    | ((with_reducible apply lm_iW); decide))
    refine lm_cI c1 ?_
    repeat (first
    | ((with_reducible apply lm_sI); exact rfl)
    | ((with_reducible apply lm_sR); exact rfl)
    | ((with_reducible apply lm_sS); exact rfl; exact rfl)
    | ((with_reducible apply lm_sL); exact rfl)
    | ((with_reducible apply lm_sP); exact rfl; exact rfl)
    | ((with_reducible apply lm_sPL); exact rfl; exact rfl)
    | ((with_reducible apply lm_sAA); exact rfl; exact rfl)
    | ((with_reducible apply lm_sA); (first | exact rfl | assumption); omega)
    | ((with_reducible apply lm_sJ); (first | exact rfl | assumption); omega)
    | ((with_reducible apply lm_sB); (first | exact rfl | assumption); omega)
    | ((with_reducible apply lm_wA); (first | exact rfl | assumption); omega)
    | ((with_reducible apply lm_wJ); (first | exact rfl | assumption); omega)
    | ((with_reducible apply lm_wB); (first | exact rfl | assumption); omega)
    | ((with_reducible apply lm_sAl); (first | exact rfl | assumption); omega)
    | ((with_reducible apply lm_iW); decide))
    rw [lm_K1, lm_oo]
    exact k2
  · have e1 : lm_s41 e (b % 16) s = s := by
      unfold lm_s41
      rw [if_neg (fun g => c g.2)]
    rw [e1]
    obtain ⟨m', a1, a2, a3, a4, a5⟩ := second s m3 (by omega) gm gG s3 gh
    refine ⟨m', n3, ⟨a1, a2, by rw [es, e1]; exact a4, a3⟩, fun R K => lm_e87_39 ?_⟩
    unfold lm_q87_39
    rw [show Int32.ofInt 481 = Int32.ofNat 481 from rfl, lm_K256]
    refine lm_geF (by omega) (by omega) (by omega) (lm_geF (by omega) (by omega) (by omega) ?_)
    repeat (first
    | ((with_reducible apply lm_sI); exact rfl)
    | ((with_reducible apply lm_sR); exact rfl)
    | ((with_reducible apply lm_sS); exact rfl; exact rfl)
    | ((with_reducible apply lm_sL); exact rfl)
    | ((with_reducible apply lm_sP); exact rfl; exact rfl)
    | ((with_reducible apply lm_sPL); exact rfl; exact rfl)
    | ((with_reducible apply lm_sAA); exact rfl; exact rfl)
    | ((with_reducible apply lm_sA); (first | exact rfl | assumption); omega)
    | ((with_reducible apply lm_sJ); (first | exact rfl | assumption); omega)
    | ((with_reducible apply lm_sB); (first | exact rfl | assumption); omega)
    | ((with_reducible apply lm_wA); (first | exact rfl | assumption); omega)
    | ((with_reducible apply lm_wJ); (first | exact rfl | assumption); omega)
    | ((with_reducible apply lm_wB); (first | exact rfl | assumption); omega)
    | ((with_reducible apply lm_sAl); (first | exact rfl | assumption); omega)
    | ((with_reducible apply lm_iW); decide))
    refine lm_cI c3 ?_
    rw [ean]
    repeat (first
    | ((with_reducible apply lm_sI); exact rfl)
    | ((with_reducible apply lm_sR); exact rfl)
    | ((with_reducible apply lm_sS); exact rfl; exact rfl)
    | ((with_reducible apply lm_sL); exact rfl)
    | ((with_reducible apply lm_sP); exact rfl; exact rfl)
    | ((with_reducible apply lm_sPL); exact rfl; exact rfl)
    | ((with_reducible apply lm_sAA); exact rfl; exact rfl)
    | ((with_reducible apply lm_sA); (first | exact rfl | assumption); omega)
    | ((with_reducible apply lm_sJ); (first | exact rfl | assumption); omega)
    | ((with_reducible apply lm_sB); (first | exact rfl | assumption); omega)
    | ((with_reducible apply lm_wA); (first | exact rfl | assumption); omega)
    | ((with_reducible apply lm_wJ); (first | exact rfl | assumption); omega)
    | ((with_reducible apply lm_wB); (first | exact rfl | assumption); omega)
    | ((with_reducible apply lm_sAl); (first | exact rfl | assumption); omega)
    | ((with_reducible apply lm_iW); decide))
    refine lm_cI c1 ?_
    refine lm_iT (lm_s9_ge c) ?_
    exact a5 R K
theorem lm_l87 (hC : lm_cx m0 n0 = C) (he : e = 2 ∨ e = 4) (h43 : m0 203 43 = Int32.ofNat e) (hp : lm_ar p = some (0, 256)) (hp3 : p ≠ 203 ∧ p ≠ 227 ∧ p ≠ 221) : ∀ k t (m : lm_MI) (n : lm_ML), t + k = 481 → lm_I87 C G e p m0 n0 t m n → ∃ m' n', (∀ q, q ≠ 203 → q ≠ 227 → q ≠ p → m' q = m0 q) ∧ lm_fG m0 n0 m' n' ∧ lm_hl3 m' p (lm_s4 e (lm_B12 C G) 962) ∧ ∀ R, lm_rn sc (d + 3) lm_m87.2.2.2.2.1 (lm_reg lm_m87.2.2.2.2.2) (133, [(5, .int (Int32.ofNat (lm_s4 e (lm_B12 C G) 962).1))], []) (lm_w m' n' x) = some R → lm_rn sc (d + 3) lm_m87.2.2.2.2.1 (lm_reg lm_m87.2.2.2.2.2) (39, [(0, .ref 203), (1, .ref p), (5, .int (Int32.ofNat (lm_s4 e (lm_B12 C G) (2 * t)).1)), (6, .int (Int32.ofNat t))], []) (lm_w m n x) = some R := by
  intro k
  induction k with
  | zero =>
    intro t m n ht h
    have e : t = 481 := ht
    subst e
    refine ⟨m, n, h.1, h.2.1, h.2.2.1, fun R K => lm_e87_39 ?_⟩
    unfold lm_q87_39
    rw [show Int32.ofInt 481 = Int32.ofNat 481 from rfl]
    exact lm_geT (by omega) (by omega) (by omega) K
  | succ k ih =>
    intro t m n ht h
    have hn := lm_s4_le (e := e) (B := lm_B12 C G) (2 * t)
    by_cases c : (lm_s4 e (lm_B12 C G) (2 * t)).1 < 256
    · obtain ⟨m1, n1, h1, k1⟩ := lm_l87s (sc := sc) (x := x) (d := d) hC he h43 hp hp3 (by omega) c h
      obtain ⟨m2, n2, a1, a2, a3, a4⟩ := ih (t + 1) m1 n1 (by omega) h1
      exact ⟨m2, n2, a1, a2, a3, fun R K => k1 R (a4 R K)⟩
    · have e' : lm_s4 e (lm_B12 C G) 962 = lm_s4 e (lm_B12 C G) (2 * t) := by
        rw [show 962 = 2 * t + (962 - 2 * t) by omega]
        exact lm_s4_st c _
      rw [e']
      refine ⟨m, n, h.1, h.2.1, h.2.2.1, fun R K => lm_e87_39 ?_⟩
      unfold lm_q87_39
      rw [show Int32.ofInt 481 = Int32.ofNat 481 from rfl, lm_K256]
      exact lm_geF (by omega) (by omega) (by omega) (lm_geT (by omega) (by omega) (by omega) K)
/-- sampleSmall of the reference -/
theorem lm_u87 (hC : lm_cx m n = C) (he : e = 2 ∨ e = 4) (h43 : m 203 43 = Int32.ofNat e) (hp : lm_ar p = some (0, 256)) (hp3 : p ≠ 203 ∧ p ≠ 227 ∧ p ≠ 221) (hq : lm_ar q = some (1, v)) (hv : v ≤ 70000) (hav : a + 64 ≤ v) (hq3 : q ≠ 203 ∧ q ≠ 227) : ∃ m' n', lm_cal sc (d + 5) 87 [.ref 203, .ref p, .ref q, .int (Int32.ofNat a), .int w] (lm_w m n x) = some (.ok (some (.int (lm_z (decide ((lm_s4 e (lm_B12 C (ln_g6 (m q) a w)) 962).1 = 256))))), lm_w m' n' x) ∧ (∀ r, r ≠ 203 → r ≠ 227 → r ≠ p → m' r = m r) ∧ lm_fG m n m' n' ∧ lm_hl3 m' p (lm_s4 e (lm_B12 C (ln_g6 (m q) a w)) 962) := by
  obtain ⟨m1, n1, k1, s1, f1⟩ := lm_rS (sc := sc) (d := d + 2) (x := x) (k := 12) (G := ln_g6 (m q) a w) hC (by decide) (by decide)
  have C1 := f1.cx.trans hC
  obtain ⟨m2, n2, k2, s2, f2⟩ := lm_rA (sc := sc) (d := d) (x := x) (k := 12) (q := q) (v := v) (a := a) (l := 64) (L := 0) (G := ln_g6 (m q) a w) C1 (by decide) hq3 hq hav hv (fun t ht => by
    rw [f1.1 q hq3.1 hq3.2, Nat.zero_add, ln_g6, if_pos ht]) s1
  have C2 := f2.cx.trans C1
  obtain ⟨m3, n3, k3, s3, f3⟩ := lm_rB (sc := sc) (d := d + 1) (x := x) (k := 12) (w := w) (L := 0 + 64) (G := ln_g6 (m q) a w) C2 (by decide) (by rw [ln_g6, if_neg (by decide), if_pos rfl]) s2
  have C3 := f3.cx.trans C2
  obtain ⟨m4, n4, k4, s4, f4⟩ := lm_rB (sc := sc) (d := d + 1) (x := x) (k := 12) (w := w >>> ((Int32.ofInt 8) &&& 31)) (L := 0 + 64 + 1) (G := ln_g6 (m q) a w) C3 (by decide) (by rw [ln_g6, if_neg (by decide), if_neg (by decide)]) s3
  have C4 := f4.cx.trans C3
  obtain ⟨m5, n5, k5, s5, f5⟩ := lm_rF (sc := sc) (d := d) (x := x) (k := 12) C4 (by decide) (by decide) s4
  have fh := f1.tr (f2.tr (f3.tr (f4.tr f5)))
  obtain ⟨m6, n6, a1, a2, a3, a4⟩ := lm_l87 (sc := sc) (d := d + 1) (x := x) (m0 := m) (n0 := n) (e := e) (G := ln_g6 (m q) a w) hC he h43 hp hp3 481 0 m5 n5 (by omega) ⟨fun r h1 h2 _ => fh.1 r h1 h2, fh.G, fun i hi => absurd hi (by show ¬ i < 0; omega), s5⟩
  refine ⟨m6, n6, ?_, a1, a2, a3⟩
  refine lm_cal_of (Y := lm_m87) rfl rfl (lm_e87_0 ?_)
  unfold lm_q87_0
  rw [lm_K12, lm_K64, lm_K0]
  repeat (first
    | ((with_reducible apply lm_sI); exact rfl)
    | ((with_reducible apply lm_sR); exact rfl)
    | ((with_reducible apply lm_sS); exact rfl; exact rfl)
    | ((with_reducible apply lm_sL); exact rfl)
    | ((with_reducible apply lm_sP); exact rfl; exact rfl)
    | ((with_reducible apply lm_sPL); exact rfl; exact rfl)
    | ((with_reducible apply lm_sAA); exact rfl; exact rfl)
    | ((with_reducible apply lm_sA); (first | exact rfl | assumption); omega)
    | ((with_reducible apply lm_sJ); (first | exact rfl | assumption); omega)
    | ((with_reducible apply lm_sB); (first | exact rfl | assumption); omega)
    | ((with_reducible apply lm_wA); (first | exact rfl | assumption); omega)
    | ((with_reducible apply lm_wJ); (first | exact rfl | assumption); omega)
    | ((with_reducible apply lm_wB); (first | exact rfl | assumption); omega)
    | ((with_reducible apply lm_sAl); (first | exact rfl | assumption); omega)
    | ((with_reducible apply lm_iW); decide))
  refine lm_cV k1 ?_
  repeat (first
    | ((with_reducible apply lm_sI); exact rfl)
    | ((with_reducible apply lm_sR); exact rfl)
    | ((with_reducible apply lm_sS); exact rfl; exact rfl)
    | ((with_reducible apply lm_sL); exact rfl)
    | ((with_reducible apply lm_sP); exact rfl; exact rfl)
    | ((with_reducible apply lm_sPL); exact rfl; exact rfl)
    | ((with_reducible apply lm_sAA); exact rfl; exact rfl)
    | ((with_reducible apply lm_sA); (first | exact rfl | assumption); omega)
    | ((with_reducible apply lm_sJ); (first | exact rfl | assumption); omega)
    | ((with_reducible apply lm_sB); (first | exact rfl | assumption); omega)
    | ((with_reducible apply lm_wA); (first | exact rfl | assumption); omega)
    | ((with_reducible apply lm_wJ); (first | exact rfl | assumption); omega)
    | ((with_reducible apply lm_wB); (first | exact rfl | assumption); omega)
    | ((with_reducible apply lm_sAl); (first | exact rfl | assumption); omega)
    | ((with_reducible apply lm_iW); decide))
  refine lm_cV k2 ?_
  repeat (first
    | ((with_reducible apply lm_sI); exact rfl)
    | ((with_reducible apply lm_sR); exact rfl)
    | ((with_reducible apply lm_sS); exact rfl; exact rfl)
    | ((with_reducible apply lm_sL); exact rfl)
    | ((with_reducible apply lm_sP); exact rfl; exact rfl)
    | ((with_reducible apply lm_sPL); exact rfl; exact rfl)
    | ((with_reducible apply lm_sAA); exact rfl; exact rfl)
    | ((with_reducible apply lm_sA); (first | exact rfl | assumption); omega)
    | ((with_reducible apply lm_sJ); (first | exact rfl | assumption); omega)
    | ((with_reducible apply lm_sB); (first | exact rfl | assumption); omega)
    | ((with_reducible apply lm_wA); (first | exact rfl | assumption); omega)
    | ((with_reducible apply lm_wJ); (first | exact rfl | assumption); omega)
    | ((with_reducible apply lm_wB); (first | exact rfl | assumption); omega)
    | ((with_reducible apply lm_sAl); (first | exact rfl | assumption); omega)
    | ((with_reducible apply lm_iW); decide))
  refine lm_cV k3 ?_
  repeat (first
    | ((with_reducible apply lm_sI); exact rfl)
    | ((with_reducible apply lm_sR); exact rfl)
    | ((with_reducible apply lm_sS); exact rfl; exact rfl)
    | ((with_reducible apply lm_sL); exact rfl)
    | ((with_reducible apply lm_sP); exact rfl; exact rfl)
    | ((with_reducible apply lm_sPL); exact rfl; exact rfl)
    | ((with_reducible apply lm_sAA); exact rfl; exact rfl)
    | ((with_reducible apply lm_sA); (first | exact rfl | assumption); omega)
    | ((with_reducible apply lm_sJ); (first | exact rfl | assumption); omega)
    | ((with_reducible apply lm_sB); (first | exact rfl | assumption); omega)
    | ((with_reducible apply lm_wA); (first | exact rfl | assumption); omega)
    | ((with_reducible apply lm_wJ); (first | exact rfl | assumption); omega)
    | ((with_reducible apply lm_wB); (first | exact rfl | assumption); omega)
    | ((with_reducible apply lm_sAl); (first | exact rfl | assumption); omega)
    | ((with_reducible apply lm_iW); decide))
  refine lm_cV k4 ?_
  repeat (first
    | ((with_reducible apply lm_sI); exact rfl)
    | ((with_reducible apply lm_sR); exact rfl)
    | ((with_reducible apply lm_sS); exact rfl; exact rfl)
    | ((with_reducible apply lm_sL); exact rfl)
    | ((with_reducible apply lm_sP); exact rfl; exact rfl)
    | ((with_reducible apply lm_sPL); exact rfl; exact rfl)
    | ((with_reducible apply lm_sAA); exact rfl; exact rfl)
    | ((with_reducible apply lm_sA); (first | exact rfl | assumption); omega)
    | ((with_reducible apply lm_sJ); (first | exact rfl | assumption); omega)
    | ((with_reducible apply lm_sB); (first | exact rfl | assumption); omega)
    | ((with_reducible apply lm_wA); (first | exact rfl | assumption); omega)
    | ((with_reducible apply lm_wJ); (first | exact rfl | assumption); omega)
    | ((with_reducible apply lm_wB); (first | exact rfl | assumption); omega)
    | ((with_reducible apply lm_sAl); (first | exact rfl | assumption); omega)
    | ((with_reducible apply lm_iW); decide))
  refine lm_cV k5 ?_
  refine a4 _ (lm_e87_133 ?_)
  have hn := lm_s4_le (e := e) (B := lm_B12 C (ln_g6 (m q) a w)) 962
  unfold lm_q87_133
  rw [lm_K256]
  by_cases c : (lm_s4 e (lm_B12 C (ln_g6 (m q) a w)) 962).1 = 256
  · rw [decide_eq_true c]
    refine lm_neF (by omega) (by omega) (fun g => g c) ?_
    repeat (first
    | ((with_reducible apply lm_sI); exact rfl)
    | ((with_reducible apply lm_sR); exact rfl)
    | ((with_reducible apply lm_sS); exact rfl; exact rfl)
    | ((with_reducible apply lm_sL); exact rfl)
    | ((with_reducible apply lm_sP); exact rfl; exact rfl)
    | ((with_reducible apply lm_sPL); exact rfl; exact rfl)
    | ((with_reducible apply lm_sAA); exact rfl; exact rfl)
    | ((with_reducible apply lm_sA); (first | exact rfl | assumption); omega)
    | ((with_reducible apply lm_sJ); (first | exact rfl | assumption); omega)
    | ((with_reducible apply lm_sB); (first | exact rfl | assumption); omega)
    | ((with_reducible apply lm_wA); (first | exact rfl | assumption); omega)
    | ((with_reducible apply lm_wJ); (first | exact rfl | assumption); omega)
    | ((with_reducible apply lm_wB); (first | exact rfl | assumption); omega)
    | ((with_reducible apply lm_sAl); (first | exact rfl | assumption); omega)
    | ((with_reducible apply lm_iW); decide))
    rfl
  · rw [decide_eq_false c]
    refine lm_neT (by omega) (by omega) c ?_
    repeat (first
    | ((with_reducible apply lm_sI); exact rfl)
    | ((with_reducible apply lm_sR); exact rfl)
    | ((with_reducible apply lm_sS); exact rfl; exact rfl)
    | ((with_reducible apply lm_sL); exact rfl)
    | ((with_reducible apply lm_sP); exact rfl; exact rfl)
    | ((with_reducible apply lm_sPL); exact rfl; exact rfl)
    | ((with_reducible apply lm_sAA); exact rfl; exact rfl)
    | ((with_reducible apply lm_sA); (first | exact rfl | assumption); omega)
    | ((with_reducible apply lm_sJ); (first | exact rfl | assumption); omega)
    | ((with_reducible apply lm_sB); (first | exact rfl | assumption); omega)
    | ((with_reducible apply lm_wA); (first | exact rfl | assumption); omega)
    | ((with_reducible apply lm_wJ); (first | exact rfl | assumption); omega)
    | ((with_reducible apply lm_wB); (first | exact rfl | assumption); omega)
    | ((with_reducible apply lm_sAl); (first | exact rfl | assumption); omega)
    | ((with_reducible apply lm_iW); decide))
    rfl
end LMSG
