/-! ===== Dsa of the reference: the ball ===== -/
theorem lm_rQ.of {C : lm_CX} {k L t : Nat} {G : Nat → Int32} {m m' : lm_MI} {n : lm_ML} (h : lm_rQ m n C k G L t) (e : m' 203 = m 203) (_e2 : m' 227 = m 227) : lm_rQ m' n C k G L t := by
  unfold lm_rQ at h ⊢
  rw [e]
  exact h
section LMRB
variable {sc : lm_H} {C : lm_CX} {d s p q v a : Nat} {m m0 : lm_MI} {n n0 : lm_ML} {x : lm_H × Nat × Nat} {G H : Nat → Int32} {L : Nat}
/-- what it leaves alone -/
def ln_fP (p : Nat) (m : lm_MI) (n : lm_ML) (m' : lm_MI) (n' : lm_ML) : Prop := (∀ r, r ≠ 203 → r ≠ 227 → r ≠ p → m' r = m r) ∧ lm_fG m n m' n'
theorem lm_l102 (hs : s ≤ 2) (hp : lm_ar p = some (0, 256)) (hp3 : p ≠ 203 ∧ p ≠ 227 ∧ p ≠ 221 ∧ p ≠ 229) (hC : lm_cx m n = C) (h44 : m 203 44 = Int32.ofNat (lm_dt' s)) (hS : ∀ i, i < 8 → lm_yb (m 229 i) = lm_yb (lm_Hm C 12 G L i)) : ∀ j i, i + j = 121 → ∀ m1 n1 w, ln_fP p m n m1 n1 → lm_rQ m1 n1 C 12 G L (8 + i) → (∀ c, c < 256 → m1 p c = Int32.ofInt ((lm_ba (lm_Hm C 12 G L) (lm_dt' s) i).2 c)) → (lm_ba (lm_Hm C 12 G L) (lm_dt' s) i).1 < 256 → (lm_ba (lm_Hm C 12 G L) (lm_dt' s) i).1 < w → w ≤ 256 → ∃ m' n', ln_fP p m n m' n' ∧ (∀ c, c < 256 → m' p c = Int32.ofInt ((lm_ba (lm_Hm C 12 G L) (lm_dt' s) 121).2 c)) ∧ lm_rn sc (d + 3) lm_m102.2.2.2.2.1 (lm_reg lm_m102.2.2.2.2.2) (78, [(0, .ref 203), (1, .ref p), (4, .int (Int32.ofNat i)), (5, .int (Int32.ofNat (lm_ba (lm_Hm C 12 G L) (lm_dt' s) i).1)), (6, .int (Int32.ofNat w))], []) (lm_w m1 n1 x) = some (.ok (some (.int (lm_z (decide ((lm_ba (lm_Hm C 12 G L) (lm_dt' s) 121).1 = 256))))), lm_w m' n' x) := by
  have hpar := lm_dpar s hs
  generalize eH : lm_Hm C 12 G L = H at *
  intro j
  induction j with
  | zero =>
    intro i hi m1 n1 w f1 hQ h1 hpos hw hw2
    have e : i = 121 := by omega
    subst e
    refine ⟨m1, n1, f1, h1, ?_⟩
    rw [decide_eq_false (by omega)]
    refine lm_e102_78 ?_
    unfold lm_q102_78
    refine lm_leF (by omega) (by omega) (by omega) ?_
    rw [show Int32.ofInt 121 = Int32.ofNat 121 from rfl]
    refine lm_neF (by omega) (by omega) (by omega) ?_
    exact lm_iW (by decide) rfl
  | succ j ih =>
    intro i hi m1 n1 w f1 hQ h1 hpos hw hw2
    have C1 : lm_cx m1 n1 = C := (f1.2.B.cx (f1.1 221 (by decide) (by decide) (fun g => hp3.2.2.1 g.symm))).trans hC
    obtain ⟨m2, n2, c2, q2, f2⟩ := lm_rSq (sc := sc) (d := d) (x := x) C1 (by decide) (by decide) hQ
    rw [eH] at c2
    have F2 : ln_fP p m n m2 n2 := ⟨fun r r1 r2 r3 => by rw [f2.1 r r1 r2, f1.1 r r1 r2 r3], f1.2.tr f2.G⟩
    have h2 : ∀ c, c < 256 → m2 p c = Int32.ofInt ((lm_ba H (lm_dt' s) i).2 c) := fun c hc => by rw [f2.1 p hp3.1 hp3.2.1]; exact h1 c hc
    have es : lm_ba H (lm_dt' s) (i + 1) = ln_b1 (lm_bS H (lm_dt' s)) (ln_bB H i) (lm_ba H (lm_dt' s) i) := lm_bl_s i
    have hB : ln_bB H i < 256 := by unfold ln_bB; exact lm_yb_lt _
    have eB : lm_yb (H (8 + i)) = ln_bB H i := by unfold ln_bB; rfl
    have hge1 : 256 - lm_dt' s ≤ (lm_ba H (lm_dt' s) i).1 := lm_bl_ge (by omega) i
    rw [eB] at c2
    have run1 : ∀ R, lm_rn sc (d + 3) lm_m102.2.2.2.2.1 (lm_reg lm_m102.2.2.2.2.2) (78, [(0, .ref 203), (1, .ref p), (4, .int (Int32.ofNat (i + 1))), (5, .int (Int32.ofNat (lm_ba H (lm_dt' s) i).1)), (6, .int (Int32.ofNat (ln_bB H i)))], []) (lm_w m2 n2 x) = some R → lm_rn sc (d + 3) lm_m102.2.2.2.2.1 (lm_reg lm_m102.2.2.2.2.2) (78, [(0, .ref 203), (1, .ref p), (4, .int (Int32.ofNat i)), (5, .int (Int32.ofNat (lm_ba H (lm_dt' s) i).1)), (6, .int (Int32.ofNat w))], []) (lm_w m1 n1 x) = some R := by
      intro R K
      clear h1 h2 ih
      refine lm_e102_78 ?_
      unfold lm_q102_78
      refine lm_leF (by omega) (by omega) (by omega) ?_
      rw [show Int32.ofInt 121 = Int32.ofNat 121 from rfl]
      refine lm_neT (by omega) (by omega) (by omega) ?_
      repeat (first
    | ((with_reducible apply lm_sI); exact rfl)
    | ((with_reducible apply lm_sR); exact rfl)
    | ((with_reducible apply lm_sS); exact rfl; exact rfl)
    | ((with_reducible apply lm_sL); exact rfl)
    | ((with_reducible apply lm_sP); exact rfl; exact rfl)
    | ((with_reducible apply lm_sPL); exact rfl; exact rfl)
    | ((with_reducible apply lm_sAA); exact rfl; exact rfl)
    | ((with_reducible apply lm_sA); (first | exact rfl | assumption); omega)
    | ((with_reducible apply lm_sJ); (first | exact rfl | assumption); omega)
    | ((with_reducible apply lm_sB); (first | exact rfl | assumption); omega)
    | ((with_reducible apply lm_wA); (first | exact rfl | assumption); omega)
    | ((with_reducible apply lm_wJ); (first | exact rfl | assumption); omega)
    | ((with_reducible apply lm_wB); (first | exact rfl | assumption); omega)
    | ((with_reducible apply lm_sAl); (first | exact rfl | assumption); omega)
    | ((with_reducible apply lm_iW); decide))
      refine lm_cI c2 ?_
      rw [lm_K1, lm_oo]
      exact K
    by_cases c : ln_bB H i ≤ (lm_ba H (lm_dt' s) i).1
    · rw [ln_b1_y (by omega) c] at es
      have eg : ln_bt (fun j => m2 229 (0 + j)) ((lm_ba H (lm_dt' s) i).1 + lm_dt' s - 256) = lm_bS H (lm_dt' s) (lm_ba H (lm_dt' s) i).1 := by
        unfold lm_bS ln_bt
        rw [F2.1 229 (by decide) (by decide) (fun g => hp3.2.2.2 g.symm)]
        dsimp only
        rw [Nat.zero_add, hS _ (by omega)]
      have h44' : m2 203 44 = Int32.ofNat (lm_dt' s) := by rw [F2.2.1 44 (by decide) (by decide) (by decide)]; exact h44
      generalize hP : lm_ba H (lm_dt' s) i = st at *
      generalize ln_bB H i = b at *
      have u157 := lm_u157 (sc := sc) (e := d + 2) (m := lm_u m2 p st.1 (Int32.ofInt (st.2 b))) (n := n2) (x := x) (q := 229) (v := 64) (a := 0) (t := st.1 + lm_dt' s - 256) rfl (by decide) (by omega) (by omega)
      rw [show ln_bt (fun j => lm_u m2 p st.1 (Int32.ofInt (st.2 b)) 229 (0 + j)) (st.1 + lm_dt' s - 256) = lm_bS H (lm_dt' s) st.1 by rw [lm_u_row (fun g => hp3.2.2.2 g.symm)]; exact eg] at u157
      generalize eM : lm_u (lm_u m2 p st.1 (Int32.ofInt (st.2 b))) p b (Int32.ofInt (if lm_bS H (lm_dt' s) st.1 then -1 else 1)) = M
      have rM : ∀ r, r ≠ p → M r = m2 r := fun r hr => by rw [← eM, lm_u_row hr, lm_u_row hr]
      have hM : ∀ k, k < 256 → M p k = Int32.ofInt ((lm_ba H (lm_dt' s) (i + 1)).2 k) := fun k hk => by
        rw [es, ← eM]
        show _ = Int32.ofInt (if k = b then (if lm_bS H (lm_dt' s) st.1 then -1 else 1) else if k = st.1 then st.2 b else st.2 k)
        by_cases k1 : k = b
        · subst k1; rw [lm_u_eq, if_pos rfl]
        · rw [lm_u_ne (fun g => k1 g.2), if_neg k1]
          by_cases k2 : k = st.1
          · rw [if_pos k2, k2, lm_u_eq]
          · rw [lm_u_ne (fun g => k2 g.2), if_neg k2]
            exact h2 k hk
      have FM : ln_fP p m n M n2 := ⟨fun r r1 r2 r3 => by rw [rM r r3, F2.1 r r1 r2 r3], F2.2.tr ⟨fun j _ _ _ => by rw [rM 203 (fun g => hp3.1 g.symm)], fun _ _ _ _ _ _ _ => rfl⟩⟩
      have run2 : ∀ R, lm_rn sc (d + 3) lm_m102.2.2.2.2.1 (lm_reg lm_m102.2.2.2.2.2) (65, [(0, .ref 203), (1, .ref p), (4, .int (Int32.ofNat (i + 1))), (5, .int (Int32.ofNat (st.1 + 1)))], []) (lm_w M n2 x) = some R → lm_rn sc (d + 3) lm_m102.2.2.2.2.1 (lm_reg lm_m102.2.2.2.2.2) (78, [(0, .ref 203), (1, .ref p), (4, .int (Int32.ofNat (i + 1))), (5, .int (Int32.ofNat st.1)), (6, .int (Int32.ofNat b))], []) (lm_w m2 n2 x) = some R := by
        intro R K
        have eb := h2 b (by omega)
        clear h1 h2 ih hM
        have fin : ∀ w, w = Int32.ofInt (if lm_bS H (lm_dt' s) st.1 then -1 else 1) → lm_rn sc (d + 3) lm_m102.2.2.2.2.1 (lm_reg lm_m102.2.2.2.2.2) (145, [(0, .ref 203), (1, .ref p), (4, .int (Int32.ofNat (i + 1))), (5, .int (Int32.ofNat st.1))], [.int w, .int (Int32.ofNat b), .ref p]) (lm_w (lm_u m2 p st.1 (Int32.ofInt (st.2 b))) n2 x) = some R := by
          intro w hw
          subst hw
          refine lm_e102_145 ?_
          unfold lm_q102_145
          repeat (first
    | ((with_reducible apply lm_sI); exact rfl)
    | ((with_reducible apply lm_sR); exact rfl)
    | ((with_reducible apply lm_sS); exact rfl; exact rfl)
    | ((with_reducible apply lm_sL); exact rfl)
    | ((with_reducible apply lm_sP); exact rfl; exact rfl)
    | ((with_reducible apply lm_sPL); exact rfl; exact rfl)
    | ((with_reducible apply lm_sAA); exact rfl; exact rfl)
    | ((with_reducible apply lm_sA); (first | exact rfl | assumption); omega)
    | ((with_reducible apply lm_sJ); (first | exact rfl | assumption); omega)
    | ((with_reducible apply lm_sB); (first | exact rfl | assumption); omega)
    | ((with_reducible apply lm_wA); (first | exact rfl | assumption); omega)
    | ((with_reducible apply lm_wJ); (first | exact rfl | assumption); omega)
    | ((with_reducible apply lm_wB); (first | exact rfl | assumption); omega)
    | ((with_reducible apply lm_sAl); (first | exact rfl | assumption); omega)
    | ((with_reducible apply lm_iW); decide))
          rw [eM, lm_K1, lm_oo]
          exact K
        refine lm_e102_78 ?_
        unfold lm_q102_78
        refine lm_leT (by omega) (by omega) c ?_
        repeat (first
    | ((with_reducible apply lm_sI); exact rfl)
    | ((with_reducible apply lm_sR); exact rfl)
    | ((with_reducible apply lm_sS); exact rfl; exact rfl)
    | ((with_reducible apply lm_sL); exact rfl)
    | ((with_reducible apply lm_sP); exact rfl; exact rfl)
    | ((with_reducible apply lm_sPL); exact rfl; exact rfl)
    | ((with_reducible apply lm_sAA); exact rfl; exact rfl)
    | ((with_reducible apply lm_sA); (first | exact rfl | assumption); omega)
    | ((with_reducible apply lm_sJ); (first | exact rfl | assumption); omega)
    | ((with_reducible apply lm_sB); (first | exact rfl | assumption); omega)
    | ((with_reducible apply lm_wA); (first | exact rfl | assumption); omega)
    | ((with_reducible apply lm_wJ); (first | exact rfl | assumption); omega)
    | ((with_reducible apply lm_wB); (first | exact rfl | assumption); omega)
    | ((with_reducible apply lm_sAl); (first | exact rfl | assumption); omega)
    | ((with_reducible apply lm_iW); decide))
        rw [eb]
        repeat (first
    | ((with_reducible apply lm_sI); exact rfl)
    | ((with_reducible apply lm_sR); exact rfl)
    | ((with_reducible apply lm_sS); exact rfl; exact rfl)
    | ((with_reducible apply lm_sL); exact rfl)
    | ((with_reducible apply lm_sP); exact rfl; exact rfl)
    | ((with_reducible apply lm_sPL); exact rfl; exact rfl)
    | ((with_reducible apply lm_sAA); exact rfl; exact rfl)
    | ((with_reducible apply lm_sA); (first | exact rfl | assumption); omega)
    | ((with_reducible apply lm_sJ); (first | exact rfl | assumption); omega)
    | ((with_reducible apply lm_sB); (first | exact rfl | assumption); omega)
    | ((with_reducible apply lm_wA); (first | exact rfl | assumption); omega)
    | ((with_reducible apply lm_wJ); (first | exact rfl | assumption); omega)
    | ((with_reducible apply lm_wB); (first | exact rfl | assumption); omega)
    | ((with_reducible apply lm_sAl); (first | exact rfl | assumption); omega)
    | ((with_reducible apply lm_iW); decide))
        simp only [Nat.reduceDiv, Nat.reduceMod]
        rw [lm_u_row (fun g => hp3.1 g.symm), h44', lm_oo, lm_K256, lm_osu (by omega), lm_K0]
        refine lm_cI u157 ?_
        cases hc : lm_bS H (lm_dt' s) st.1 with
        | true =>
          refine lm_iF (show ¬ ¬ Int32.ofNat (true.toNat) = Int32.ofInt 1 by decide) ?_
          exact fin _ (by rw [hc]; rfl)
        | false =>
          refine lm_iT (show ¬ Int32.ofNat (false.toNat) = Int32.ofInt 1 by decide) ?_
          exact fin _ (by rw [hc]; rfl)
      by_cases c6 : st.1 + 1 = 256
      · have e := lm_bl_end (sg := lm_bS H (lm_dt' s)) (B := ln_bB H) (p0 := 256 - lm_dt' s) (n := i + 1) (by show (lm_ba H (lm_dt' s) (i + 1)).1 = 256; rw [es]; exact c6) j
        rw [show i + 1 + j = 121 by omega] at e
        have e' : lm_ba H (lm_dt' s) 121 = lm_ba H (lm_dt' s) (i + 1) := e
        refine ⟨M, n2, FM, by rw [e']; exact hM, run1 _ (run2 _ (lm_e102_65 ?_))⟩
        rw [e', decide_eq_true (by rw [es]; exact c6)]
        unfold lm_q102_65
        rw [lm_K256]
        refine lm_geT (by omega) (by omega) (by omega) ?_
        exact lm_iW (by decide) rfl
      · have e1 : (lm_ba H (lm_dt' s) (i + 1)).1 = st.1 + 1 := by rw [es]
        have QM : lm_rQ M n2 C 12 G L (8 + (i + 1)) := q2.of (rM 203 (fun g => hp3.1 g.symm)) (rM 227 (fun g => hp3.2.1 g.symm))
        obtain ⟨m', n', a1, a2, a3⟩ := ih (i + 1) (by omega) M n2 256 FM QM hM (by omega) (by omega) (by omega)
        rw [e1] at a3
        refine ⟨m', n', a1, a2, run1 _ (run2 _ (lm_e102_65 ?_))⟩
        unfold lm_q102_65
        rw [lm_K256]
        refine lm_geF (by omega) (by omega) (by omega) ?_
        exact a3
    · rw [ln_b1_n (fun g => c g.2)] at es
      obtain ⟨m', n', a1, a2, a3⟩ := ih (i + 1) (by omega) m2 n2 (ln_bB H i) F2 q2 (by rw [es]; exact h2) (by rw [es]; exact hpos) (by rw [es]; omega) (by omega)
      rw [es] at a3
      exact ⟨m', n', a1, a2, run1 _ a3⟩
/-- the ball -/
theorem lm_u102 {l : Nat} (hs : s ≤ 2) (hp : lm_ar p = some (0, 256)) (hp3 : p ≠ 203 ∧ p ≠ 227 ∧ p ≠ 221 ∧ p ≠ 229) (hC : lm_cx m n = C) (h44 : m 203 44 = Int32.ofNat (lm_dt' s)) (h48 : m 203 48 = Int32.ofNat l) (hq : lm_ar q = some (1, v)) (hq3 : q ≠ 203 ∧ q ≠ 227) (hav : a + l ≤ v) (hv : v ≤ 70000) (hG : ∀ t, t < l → lm_b8 (m q (a + t)) = G t) : ∃ m' n', lm_cal sc (d + 6) 102 [.ref 203, .ref p, .ref q, .int (Int32.ofNat a)] (lm_w m n x) = some (.ok (some (.int (lm_z (decide ((lm_ba (lm_Hm C 12 G l) (lm_dt' s) 121).1 = 256))))), lm_w m' n' x) ∧ (∀ r, r ≠ 203 → r ≠ 227 → r ≠ 229 → r ≠ p → m' r = m r) ∧ lm_fG m n m' n' ∧ ∀ c, c < 256 → m' p c = Int32.ofInt ((lm_ba (lm_Hm C 12 G l) (lm_dt' s) 121).2 c) := by
  have hpar := lm_dpar s hs
  obtain ⟨m1, n1, c1, s1, f1⟩ := lm_rS (sc := sc) (d := d + 3) (x := x) (k := 12) (G := G) hC (by decide) (by decide)
  have C1 := f1.cx.trans hC
  obtain ⟨m2, n2, c2, s2, f2⟩ := lm_rA (sc := sc) (d := d + 1) (x := x) (k := 12) (q := q) (v := v) (a := a) (l := l) (L := 0) (G := G) C1 (by decide) hq3 hq hav hv (fun t ht => by
    rw [f1.1 q hq3.1 hq3.2, Nat.zero_add]
    exact hG t ht) s1
  have C2 := f2.cx.trans C1
  rw [Nat.zero_add] at s2
  obtain ⟨m3, n3, c3, s3, f3⟩ := lm_rF (sc := sc) (d := d + 1) (x := x) (k := 12) C2 (by decide) (by decide) s2
  have C3 := f3.cx.trans C2
  have F3 : lm_fh m n m3 n3 := f1.tr (f2.tr f3)
  obtain ⟨m4, n4, ⟨g1, g2, g3, g4⟩, k4⟩ := lm_lp (sc := sc) (d := d + 5) (b := 8) (hs := lm_m102.2.2.2.2.1) (code := lm_reg lm_m102.2.2.2.2.2) (x := x) (fr := fun i => (23, [(0, .ref 203), (1, .ref p), (4, .int (Int32.ofNat i))], [])) (I := fun i m' n' => (∀ r, r ≠ 203 → r ≠ 227 → r ≠ 229 → m' r = m r) ∧ lm_fG m n m' n' ∧ lm_rQ m' n' C 12 G l i ∧ ∀ j, j < i → lm_yb (m' 229 j) = lm_yb (lm_Hm C 12 G l j)) (fun i hi m4 n4 ⟨g1, g2, g3, g4⟩ => by
    have C4 : lm_cx m4 n4 = C := (g2.B.cx (g1 221 (by decide) (by decide) (by decide))).trans hC
    obtain ⟨m5, n5, c5, q5, f5⟩ := lm_rSq (sc := sc) (d := d + 2) (x := x) C4 (by decide) (by decide) g3
    refine ⟨lm_u m5 229 i (lm_b8 (Int32.ofNat (lm_yb (lm_Hm C 12 G l i)))), n5, ⟨fun r r1 r2 r3 => by rw [lm_u_row r3, f5.1 r r1 r2, g1 r r1 r2 r3], g2.tr (f5.G.tr ⟨fun j _ _ _ => by rw [lm_u_row (by decide)], fun _ _ _ _ _ _ _ => rfl⟩), q5.of (lm_u_row (by decide)) (lm_u_row (by decide)), fun j hj => ?_⟩, fun R K => lm_e102_23 ?_⟩
    · by_cases c : j = i
      · subst c
        rw [lm_u_eq, lm_yb_b8, lm_yb_n (by have := lm_yb_lt (lm_Hm C 12 G l j); omega), Nat.mod_eq_of_lt (lm_yb_lt _)]
      · rw [lm_u_ne (fun g => c g.2), f5.1 229 (by decide) (by decide)]
        exact g4 j (by omega)
    · clear g4
      unfold lm_q102_23
      rw [lm_K8]
      refine lm_geF (by omega) (by omega) (by omega) ?_
      repeat (first
    | ((with_reducible apply lm_sI); exact rfl)
    | ((with_reducible apply lm_sR); exact rfl)
    | ((with_reducible apply lm_sS); exact rfl; exact rfl)
    | ((with_reducible apply lm_sL); exact rfl)
    | ((with_reducible apply lm_sP); exact rfl; exact rfl)
    | ((with_reducible apply lm_sPL); exact rfl; exact rfl)
    | ((with_reducible apply lm_sAA); exact rfl; exact rfl)
    | ((with_reducible apply lm_sA); (first | exact rfl | assumption); omega)
    | ((with_reducible apply lm_sJ); (first | exact rfl | assumption); omega)
    | ((with_reducible apply lm_sB); (first | exact rfl | assumption); omega)
    | ((with_reducible apply lm_wA); (first | exact rfl | assumption); omega)
    | ((with_reducible apply lm_wJ); (first | exact rfl | assumption); omega)
    | ((with_reducible apply lm_wB); (first | exact rfl | assumption); omega)
    | ((with_reducible apply lm_sAl); (first | exact rfl | assumption); omega)
    | ((with_reducible apply lm_iW); decide))
      refine lm_cI c5 ?_
      repeat (first
    | ((with_reducible apply lm_sI); exact rfl)
    | ((with_reducible apply lm_sR); exact rfl)
    | ((with_reducible apply lm_sS); exact rfl; exact rfl)
    | ((with_reducible apply lm_sL); exact rfl)
    | ((with_reducible apply lm_sP); exact rfl; exact rfl)
    | ((with_reducible apply lm_sPL); exact rfl; exact rfl)
    | ((with_reducible apply lm_sAA); exact rfl; exact rfl)
    | ((with_reducible apply lm_sA); (first | exact rfl | assumption); omega)
    | ((with_reducible apply lm_sJ); (first | exact rfl | assumption); omega)
    | ((with_reducible apply lm_sB); (first | exact rfl | assumption); omega)
    | ((with_reducible apply lm_wA); (first | exact rfl | assumption); omega)
    | ((with_reducible apply lm_wJ); (first | exact rfl | assumption); omega)
    | ((with_reducible apply lm_wB); (first | exact rfl | assumption); omega)
    | ((with_reducible apply lm_sAl); (first | exact rfl | assumption); omega)
    | ((with_reducible apply lm_iW); decide))
      rw [lm_K1, lm_oo]
      exact K) 8 0 (by omega) m3 n3 ⟨fun r r1 r2 _ => F3.1 r r1 r2, F3.G, s3, fun j hj => absurd hj (by omega)⟩
  obtain ⟨m5, c5, p5⟩ := lm_u81 (sc := sc) (d := d + 4) (m := m4) (n := n4) (x := x) (p := p) hp
  have C5 : lm_cx m5 n4 = C := by
    rw [← hC]
    refine lm_fB.cx (m := m) (n := n) ⟨fun j j1 j2 j3 _ => by rw [p5.1 203 (fun g => hp3.1 g.symm), g2.1 j j1 j2 j3], g2.2⟩ ?_
    rw [p5.1 221 (fun g => hp3.2.2.1 g.symm), g1 221 (by decide) (by decide) (by decide)]
  have h44' : m5 203 44 = Int32.ofNat (lm_dt' s) := by rw [p5.1 203 (fun g => hp3.1 g.symm), g2.1 44 (by decide) (by decide) (by decide)]; exact h44
  obtain ⟨m6, n6, a1, a2, a3⟩ := lm_l102 (sc := sc) (d := d + 2) (x := x) (m := m5) (n := n4) (G := G) (L := l) hs hp hp3 C5 h44' (fun i hi => by rw [p5.1 229 (fun g => hp3.2.2.2 g.symm)]; exact g4 i hi) 121 0 (by omega) m5 n4 256 ⟨fun _ _ _ _ => rfl, ⟨fun _ _ _ _ => rfl, fun _ _ _ _ _ _ _ => rfl⟩⟩ (g3.of (p5.1 203 (fun g => hp3.1 g.symm)) (p5.1 227 (fun g => hp3.2.1 g.symm))) (fun c hc => p5.2 c hc) (by show 256 - lm_dt' s < 256; omega) (by show 256 - lm_dt' s < 256; omega) (by omega)
  refine ⟨m6, n6, ?_, fun r r1 r2 r3 r4 => by rw [a1.1 r r1 r2 r4, p5.1 r r4, g1 r r1 r2 r3], g2.tr (lm_fG.tr ⟨fun j _ _ _ => by rw [p5.1 203 (fun g => hp3.1 g.symm)], fun _ _ _ _ _ _ _ => rfl⟩ a1.2), a2⟩
  have e0 : (lm_ba (lm_Hm C 12 G l) (lm_dt' s) 0).1 = 256 - lm_dt' s := rfl
  rw [e0] at a3
  clear a2 g4
  refine lm_cal_of (Y := lm_m102) rfl rfl (lm_e102_0 ?_)
  unfold lm_q102_0
  rw [lm_K12]
  repeat (first
    | ((with_reducible apply lm_sI); exact rfl)
    | ((with_reducible apply lm_sR); exact rfl)
    | ((with_reducible apply lm_sS); exact rfl; exact rfl)
    | ((with_reducible apply lm_sL); exact rfl)
    | ((with_reducible apply lm_sP); exact rfl; exact rfl)
    | ((with_reducible apply lm_sPL); exact rfl; exact rfl)
    | ((with_reducible apply lm_sAA); exact rfl; exact rfl)
    | ((with_reducible apply lm_sA); (first | exact rfl | assumption); omega)
    | ((with_reducible apply lm_sJ); (first | exact rfl | assumption); omega)
    | ((with_reducible apply lm_sB); (first | exact rfl | assumption); omega)
    | ((with_reducible apply lm_wA); (first | exact rfl | assumption); omega)
    | ((with_reducible apply lm_wJ); (first | exact rfl | assumption); omega)
    | ((with_reducible apply lm_wB); (first | exact rfl | assumption); omega)
    | ((with_reducible apply lm_sAl); (first | exact rfl | assumption); omega)
    | ((with_reducible apply lm_iW); decide))
  refine lm_cV c1 ?_
  repeat (first
    | ((with_reducible apply lm_sI); exact rfl)
    | ((with_reducible apply lm_sR); exact rfl)
    | ((with_reducible apply lm_sS); exact rfl; exact rfl)
    | ((with_reducible apply lm_sL); exact rfl)
    | ((with_reducible apply lm_sP); exact rfl; exact rfl)
    | ((with_reducible apply lm_sPL); exact rfl; exact rfl)
    | ((with_reducible apply lm_sAA); exact rfl; exact rfl)
    | ((with_reducible apply lm_sA); (first | exact rfl | assumption); omega)
    | ((with_reducible apply lm_sJ); (first | exact rfl | assumption); omega)
    | ((with_reducible apply lm_sB); (first | exact rfl | assumption); omega)
    | ((with_reducible apply lm_wA); (first | exact rfl | assumption); omega)
    | ((with_reducible apply lm_wJ); (first | exact rfl | assumption); omega)
    | ((with_reducible apply lm_wB); (first | exact rfl | assumption); omega)
    | ((with_reducible apply lm_sAl); (first | exact rfl | assumption); omega)
    | ((with_reducible apply lm_iW); decide))
  simp only [Nat.reduceDiv, Nat.reduceMod]
  rw [f1.2.1 48 (by decide) (by decide) (by decide), h48]
  refine lm_cV c2 ?_
  repeat (first
    | ((with_reducible apply lm_sI); exact rfl)
    | ((with_reducible apply lm_sR); exact rfl)
    | ((with_reducible apply lm_sS); exact rfl; exact rfl)
    | ((with_reducible apply lm_sL); exact rfl)
    | ((with_reducible apply lm_sP); exact rfl; exact rfl)
    | ((with_reducible apply lm_sPL); exact rfl; exact rfl)
    | ((with_reducible apply lm_sAA); exact rfl; exact rfl)
    | ((with_reducible apply lm_sA); (first | exact rfl | assumption); omega)
    | ((with_reducible apply lm_sJ); (first | exact rfl | assumption); omega)
    | ((with_reducible apply lm_sB); (first | exact rfl | assumption); omega)
    | ((with_reducible apply lm_wA); (first | exact rfl | assumption); omega)
    | ((with_reducible apply lm_wJ); (first | exact rfl | assumption); omega)
    | ((with_reducible apply lm_wB); (first | exact rfl | assumption); omega)
    | ((with_reducible apply lm_sAl); (first | exact rfl | assumption); omega)
    | ((with_reducible apply lm_iW); decide))
  refine lm_cV c3 ?_
  rw [lm_K0]
  refine k4 _ (lm_e102_23 ?_)
  unfold lm_q102_23
  rw [lm_K8]
  refine lm_geT (by omega) (by omega) (by omega) ?_
  refine lm_cV c5 ?_
  repeat (first
    | ((with_reducible apply lm_sI); exact rfl)
    | ((with_reducible apply lm_sR); exact rfl)
    | ((with_reducible apply lm_sS); exact rfl; exact rfl)
    | ((with_reducible apply lm_sL); exact rfl)
    | ((with_reducible apply lm_sP); exact rfl; exact rfl)
    | ((with_reducible apply lm_sPL); exact rfl; exact rfl)
    | ((with_reducible apply lm_sAA); exact rfl; exact rfl)
    | ((with_reducible apply lm_sA); (first | exact rfl | assumption); omega)
    | ((with_reducible apply lm_sJ); (first | exact rfl | assumption); omega)
    | ((with_reducible apply lm_sB); (first | exact rfl | assumption); omega)
    | ((with_reducible apply lm_wA); (first | exact rfl | assumption); omega)
    | ((with_reducible apply lm_wJ); (first | exact rfl | assumption); omega)
    | ((with_reducible apply lm_wB); (first | exact rfl | assumption); omega)
    | ((with_reducible apply lm_sAl); (first | exact rfl | assumption); omega)
    | ((with_reducible apply lm_iW); decide))
  simp only [Nat.reduceDiv, Nat.reduceMod]
  rw [h44', lm_K256, lm_osu (by omega), lm_K0]
  refine lm_e102_65 ?_
  unfold lm_q102_65
  rw [lm_K256]
  refine lm_geF (by omega) (by omega) (by omega) ?_
  exact a3
end LMRB
