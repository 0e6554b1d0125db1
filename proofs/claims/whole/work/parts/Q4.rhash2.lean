/-! ===== SLH of the reference: hashed ===== -/
section LMTE
variable {sc : lm_H} {C : lm_CX} {d s k N : Nat} {m m' : lm_MI} {n n' : lm_ML} {x : lm_H × Nat × Nat} {L th tl ty u y z : Int32} {P A X G : Nat → Int32} {q v a l p w b L0 : Nat}
/-- the message's last bytes, the answer -/
theorem lm_l180a (hC : lm_cx m n = C) (hk : lm_k3 k) (h67 : m 203 67 = Int32.ofNat N) (hN : N ≤ 32) (hq : lm_ar q = some (1, v)) (gq : q ≠ 203 ∧ q ≠ 227) (hav : a + l ≤ v) (hv : v ≤ 70000) (hX : ∀ t, t < l → lm_b8 (m q (a + t)) = G (L0 + t)) (hp : lm_ar p = some (1, w)) (gp : p ≠ 203 ∧ p ≠ 227 ∧ p ≠ 221) (hbw : b + N ≤ w) (hw : w ≤ 70000) (hS : lm_rH m n C k G L0) : ∃ m' n', lm_rn sc (d + 5) lm_m180.2.2.2.2.1 (lm_reg lm_m180.2.2.2.2.2) (194, [(0, .ref 203), (1, .ref q), (2, .int (Int32.ofNat a)), (3, .int (Int32.ofNat l)), (4, .ref p), (5, .int (Int32.ofNat b))], []) (lm_w m n x) = some (.ok none, lm_w m' n' x) ∧ (∀ r, r ≠ 203 → r ≠ 227 → r ≠ p → m' r = m r) ∧ lm_fG m n m' n' ∧ (∀ i, i < b ∨ b + N ≤ i → m' p i = m p i) ∧ ∀ i, i < N → m' p (b + i) = lm_Hm C k G (L0 + l) i := by
  have hb := lm_k3_b hk
  obtain ⟨m1, n1, c1, s1, f1⟩ := lm_rA (sc := sc) (d := d + 1) (x := x) (q := q) (a := a) (l := l) hC hb.2 gq hq hav hv hX hS
  obtain ⟨m2, n2, c2, f2⟩ := lm_rG (sc := sc) (d := d) (x := x) (q := p) (v := w) (a := b) (l := N) (by rw [f1.cx]; exact hC) hb.2 gp hp hbw hw (fun _ => by omega) s1
  have f12 := f1.tr f2
  generalize eM : lm_fil m2 p b (b + N) (fun i => lm_Hm C k G (L0 + l) (i - b)) = M at c2
  have rM : ∀ r, r ≠ p → M r = m2 r := fun r hr => by rw [← eM, lm_fl_row hr]
  refine ⟨M, n2, ?_, fun r r1 r2 r3 => by rw [rM r r3, f12.1 r r1 r2], f12.G.tr (lm_fG.of (rM 203 (fun e => gp.1 e.symm))), fun i hi => by rw [← eM, lm_fl_out (by omega), f12.1 p gp.1 gp.2.1], fun i hi => by rw [← eM, lm_fl_in (by omega), Nat.add_sub_cancel_left]⟩
  clear hX eM
  refine lm_e180_194 ?_
  unfold lm_q180_194
  repeat (first
    | ((with_reducible apply lm_sI); exact rfl)
    | ((with_reducible apply lm_sR); exact rfl)
    | ((with_reducible apply lm_sS); exact rfl; exact rfl)
    | ((with_reducible apply lm_sL); exact rfl)
    | ((with_reducible apply lm_sP); exact rfl; exact rfl)
    | ((with_reducible apply lm_sPL); exact rfl; exact rfl)
    | ((with_reducible apply lm_sAA); exact rfl; exact rfl)
    | ((with_reducible apply lm_sA); (first | exact rfl | assumption); omega)
    | ((with_reducible apply lm_sJ); (first | exact rfl | assumption); omega)
    | ((with_reducible apply lm_sB); (first | exact rfl | assumption); omega)
    | ((with_reducible apply lm_wA); (first | exact rfl | assumption); omega)
    | ((with_reducible apply lm_wJ); (first | exact rfl | assumption); omega)
    | ((with_reducible apply lm_wB); (first | exact rfl | assumption); omega)
    | ((with_reducible apply lm_sAl); (first | exact rfl | assumption); omega)
    | ((with_reducible apply lm_iW); decide))
  refine lm_cV c1 ?_
  repeat (first
    | ((with_reducible apply lm_sI); exact rfl)
    | ((with_reducible apply lm_sR); exact rfl)
    | ((with_reducible apply lm_sS); exact rfl; exact rfl)
    | ((with_reducible apply lm_sL); exact rfl)
    | ((with_reducible apply lm_sP); exact rfl; exact rfl)
    | ((with_reducible apply lm_sPL); exact rfl; exact rfl)
    | ((with_reducible apply lm_sAA); exact rfl; exact rfl)
    | ((with_reducible apply lm_sA); (first | exact rfl | assumption); omega)
    | ((with_reducible apply lm_sJ); (first | exact rfl | assumption); omega)
    | ((with_reducible apply lm_sB); (first | exact rfl | assumption); omega)
    | ((with_reducible apply lm_wA); (first | exact rfl | assumption); omega)
    | ((with_reducible apply lm_wJ); (first | exact rfl | assumption); omega)
    | ((with_reducible apply lm_wB); (first | exact rfl | assumption); omega)
    | ((with_reducible apply lm_sAl); (first | exact rfl | assumption); omega)
    | ((with_reducible apply lm_iW); decide))
  simp only [Nat.reduceDiv, Nat.reduceMod]
  rw [f1.2.1 67 (by decide) (by decide) (by decide), h67]
  exact lm_cV c2 rfl
/-- SHA-2: the first block is filled up -/
def lm_I180 (C : lm_CX) (k : Nat) (G : Nat → Int32) (m0 : lm_MI) (n0 : lm_ML) (j : Nat) (m : lm_MI) (n : lm_ML) : Prop := lm_rH m n C k G j ∧ lm_fh m0 n0 m n
theorem lm_l180b {m0 : lm_MI} {n0 : lm_ML} (hC : lm_cx m0 n0 = C) (hk : k = 1 ∨ k = 3) (hG : ∀ j, N ≤ j → j < lm_rate k → G j = 0) : ∀ j, N ≤ j → j < lm_rate k → ∀ m n, lm_I180 C k G m0 n0 j m n → ∃ m' n', lm_I180 C k G m0 n0 (j + 1) m' n' ∧ ∀ R, lm_rn sc (d + 5) lm_m180.2.2.2.2.1 (lm_reg lm_m180.2.2.2.2.2) (120, [(0, .ref 203), (1, .ref q), (2, .int (Int32.ofNat a)), (3, .int (Int32.ofNat l)), (4, .ref p), (5, .int (Int32.ofNat b)), (6, .int (if k = 3 then 1 else 0)), (7, .int (Int32.ofNat (j + 1)))], []) (lm_w m' n' x) = some R → lm_rn sc (d + 5) lm_m180.2.2.2.2.1 (lm_reg lm_m180.2.2.2.2.2) (120, [(0, .ref 203), (1, .ref q), (2, .int (Int32.ofNat a)), (3, .int (Int32.ofNat l)), (4, .ref p), (5, .int (Int32.ofNat b)), (6, .int (if k = 3 then 1 else 0)), (7, .int (Int32.ofNat j))], []) (lm_w m n x) = some R := by
  intro j h1 h2 m n ⟨i1, i2⟩
  have hr : lm_rate k ≤ 128 := by rcases hk with e | e <;> subst e <;> decide
  obtain ⟨m1, n1, c1, s1, f1⟩ := lm_rB (sc := sc) (d := d + 2) (x := x) (w := Int32.ofInt 0) (by rw [i2.cx]; exact hC) (by omega) (by rw [hG j h1 h2]; decide) i1
  refine ⟨m1, n1, ⟨s1, i2.tr f1⟩, fun R KK => ?_⟩
  have e135 : ∀ (w6 : Int32), lm_rn sc (d + 5) lm_m180.2.2.2.2.1 (lm_reg lm_m180.2.2.2.2.2) (120, [(0, .ref 203), (1, .ref q), (2, .int (Int32.ofNat a)), (3, .int (Int32.ofNat l)), (4, .ref p), (5, .int (Int32.ofNat b)), (6, .int w6), (7, .int (Int32.ofNat (j + 1)))], []) (lm_w m1 n1 x) = some R → lm_rn sc (d + 5) lm_m180.2.2.2.2.1 (lm_reg lm_m180.2.2.2.2.2) (135, [(0, .ref 203), (1, .ref q), (2, .int (Int32.ofNat a)), (3, .int (Int32.ofNat l)), (4, .ref p), (5, .int (Int32.ofNat b)), (6, .int w6), (7, .int (Int32.ofNat j))], [.int (Int32.ofNat (lm_rate k)), .int (Int32.ofNat j)]) (lm_w m n x) = some R := by
    intro w6 K6
    refine lm_e180_135 ?_
    unfold lm_q180_135
    rw [lm_K1, lm_oo]
    refine lm_geF (by omega) (by omega) (by omega) ?_
    repeat (first
    | ((with_reducible apply lm_sI); exact rfl)
    | ((with_reducible apply lm_sR); exact rfl)
    | ((with_reducible apply lm_sS); exact rfl; exact rfl)
    | ((with_reducible apply lm_sL); exact rfl)
    | ((with_reducible apply lm_sP); exact rfl; exact rfl)
    | ((with_reducible apply lm_sPL); exact rfl; exact rfl)
    | ((with_reducible apply lm_sAA); exact rfl; exact rfl)
    | ((with_reducible apply lm_sA); (first | exact rfl | assumption); omega)
    | ((with_reducible apply lm_sJ); (first | exact rfl | assumption); omega)
    | ((with_reducible apply lm_sB); (first | exact rfl | assumption); omega)
    | ((with_reducible apply lm_wA); (first | exact rfl | assumption); omega)
    | ((with_reducible apply lm_wJ); (first | exact rfl | assumption); omega)
    | ((with_reducible apply lm_wB); (first | exact rfl | assumption); omega)
    | ((with_reducible apply lm_sAl); (first | exact rfl | assumption); omega)
    | ((with_reducible apply lm_iW); decide))
    refine lm_cV c1 ?_
    exact K6
  refine lm_e180_120 ?_
  unfold lm_q180_120
  rcases hk with e | e
  · subst e
    exact lm_iT (show (0 : Int32) = 0 by decide) (e135 _ KK)
  · subst e
    exact lm_iF (show ¬ (1 : Int32) = 0 by decide) (e135 _ KK)
/-- SHA-2: all of it -/
theorem lm_l180c (hC : lm_cx m n = C) (hk : k = 1 ∨ k = 3) (h67 : m 203 67 = Int32.ofNat N) (hN : N ≤ 32) (hq : lm_ar q = some (1, v)) (gq : q ≠ 203 ∧ q ≠ 227) (hav : a + l ≤ v) (hv : v ≤ 70000) (hX : ∀ t, t < l → lm_b8 (m q (a + t)) = X t) (hp : lm_ar p = some (1, w)) (gp : p ≠ 203 ∧ p ≠ 227 ∧ p ≠ 221) (hbw : b + N ≤ w) (hw : w ≤ 70000) (hP : ∀ t, t < N → lm_b8 (m 358 t) = lm_b8 (P t)) (hA : ∀ t, t < 32 → lm_b8 (m 333 t) = lm_rAd L th tl ty u y z t) : ∃ m' n', lm_rn sc (d + 5) lm_m180.2.2.2.2.1 (lm_reg lm_m180.2.2.2.2.2) (98, [(0, .ref 203), (1, .ref q), (2, .int (Int32.ofNat a)), (3, .int (Int32.ofNat l)), (4, .ref p), (5, .int (Int32.ofNat b)), (6, .int (if k = 3 then 1 else 0))], [.int (Int32.ofNat k), .ref 203]) (lm_w m n x) = some (.ok none, lm_w m' n' x) ∧ (∀ r, r ≠ 203 → r ≠ 227 → r ≠ p → m' r = m r) ∧ lm_fG m n m' n' ∧ (∀ i, i < b ∨ b + N ≤ i → m' p i = m p i) ∧ ∀ i, i < N → m' p (b + i) = lm_Hm C k (lm_tG N (lm_rate k) 22 P (ln_ad false L th tl ty u y z) X) (lm_rate k + 22 + l) i := by
  have hk3 : lm_k3 k := by rcases hk with e | e; exact Or.inl e; exact Or.inr (Or.inl e)
  have hb := lm_k3_b hk3
  have hr : lm_rate k ≤ 128 ∧ 64 ≤ lm_rate k := by rcases hk with e | e <;> subst e <;> decide
  generalize eG : lm_tG N (lm_rate k) 22 P (ln_ad false L th tl ty u y z) X = G
  have G0 : ∀ t, t < N → lm_b8 (P t) = G t := fun t ht => by rw [← eG]; unfold lm_tG; rw [if_pos ht]
  have G1 : ∀ t, N ≤ t → t < lm_rate k → G t = 0 := fun t h1 h2 => by rw [← eG]; unfold lm_tG; rw [if_neg (by omega), if_pos h2]
  have G2 : ∀ t, t < 22 → lm_b8 (m 333 (lm_spl2 t)) = G (lm_rate k + t) := fun t ht => by
    rw [hA _ (by unfold lm_spl2; split; decide; split; omega; split; decide; omega), lm_rAd_f ht, ← eG]
    unfold lm_tG
    rw [if_neg (by omega), if_neg (by omega), if_pos (by omega), Nat.add_sub_cancel_left]
  have G3 : ∀ t, G (lm_rate k + 22 + t) = X t := fun t => by
    rw [← eG]
    unfold lm_tG
    rw [if_neg (by omega), if_neg (by omega), if_neg (by omega), show lm_rate k + 22 + t - lm_rate k - 22 = t by omega]
  obtain ⟨m1, n1, c1, s1, f1⟩ := lm_rS (sc := sc) (d := d + 3) (x := x) (G := G) hC hb.1 hb.2
  obtain ⟨m2, n2, c2, s2, f2⟩ := lm_rA (sc := sc) (d := d + 1) (x := x) (q := 358) (v := 32) (a := 0) (l := N) (L := 0) (by rw [f1.cx]; exact hC) hb.2 (by decide) rfl (by omega) (by decide) (fun t ht => by rw [f1.1 358 (by decide) (by decide), Nat.zero_add, hP t ht, G0 t ht]) s1
  have F2 := f1.tr f2
  rw [Nat.zero_add] at s2
  obtain ⟨m3, n3, ⟨s3, F3⟩, k3⟩ := lm_lpa (fr := fun j => (120, [(0, .ref 203), (1, .ref q), (2, .int (Int32.ofNat a)), (3, .int (Int32.ofNat l)), (4, .ref p), (5, .int (Int32.ofNat b)), (6, .int (if k = 3 then 1 else 0)), (7, .int (Int32.ofNat j))], [])) (show N ≤ lm_rate k by omega) (lm_l180b (sc := sc) (d := d) (x := x) (q := q) (a := a) (l := l) (p := p) (b := b) (m0 := m2) (n0 := n2) (by rw [F2.cx]; exact hC) hk G1) m2 n2 ⟨s2, lm_fh.rf⟩
  have H3 := F2.tr F3
  have e333 : ∀ M' N', lm_fh m n M' N' → M' 333 = m 333 := fun M' N' g => g.1 333 (by decide) (by decide)
  obtain ⟨m4, n4, c4, s4, f4⟩ := lm_rB (sc := sc) (d := d + 2) (x := x) (w := lm_b8 (m3 333 3)) (by rw [H3.cx]; exact hC) hb.2 (by rw [lm_b8b8, e333 _ _ H3]; exact G2 0 (by decide)) s3
  have H4 := H3.tr f4
  obtain ⟨m5, n5, c5, s5, f5⟩ := lm_rA (sc := sc) (d := d + 1) (x := x) (q := 333) (v := 32) (a := 8) (l := 8) (by rw [H4.cx]; exact hC) hb.2 (by decide) rfl (by decide) (by decide) (fun t ht => by
    rw [e333 _ _ H4, Nat.add_assoc]
    have g := G2 (1 + t) (by omega)
    unfold lm_spl2 at g
    rw [if_neg (by omega), if_pos (by omega), show 1 + t + 7 = 8 + t by omega] at g
    exact g) s4
  have H5 := H4.tr f5
  obtain ⟨m6, n6, c6, s6, f6⟩ := lm_rB (sc := sc) (d := d + 2) (x := x) (w := lm_b8 (m5 333 19)) (by rw [H5.cx]; exact hC) hb.2 (by rw [lm_b8b8, e333 _ _ H5]; exact G2 9 (by decide)) s5
  have H6 := H5.tr f6
  obtain ⟨m7, n7, c7, s7, f7⟩ := lm_rA (sc := sc) (d := d + 1) (x := x) (q := 333) (v := 32) (a := 20) (l := 12) (by rw [H6.cx]; exact hC) hb.2 (by decide) rfl (by decide) (by decide) (fun t ht => by
    rw [e333 _ _ H6]
    have g := G2 (10 + t) (by omega)
    unfold lm_spl2 at g
    rw [if_neg (by omega), if_neg (by omega), if_neg (by omega), show 10 + t + 10 = 20 + t by omega] at g
    rw [g]
    congr 1
    omega) s6
  have H7 := H6.tr f7
  rw [show lm_rate k + 1 + 8 + 1 + 12 = lm_rate k + 22 by omega] at s7
  obtain ⟨m8, n8, c8, r8, g8, o8, v8⟩ := lm_l180a (sc := sc) (d := d) (x := x) (q := q) (v := v) (a := a) (l := l) (p := p) (w := w) (b := b) (N := N) (by rw [H7.cx]; exact hC) hk3 (by rw [H7.2.1 67 (by decide) (by decide) (by decide)]; exact h67) hN hq gq hav hv (fun t ht => by rw [H7.1 q gq.1 gq.2, G3, hX t ht]) hp gp hbw hw s7
  refine ⟨m8, n8, ?_, fun r r1 r2 r3 => by rw [r8 r r1 r2 r3, H7.1 r r1 r2], H7.G.tr g8, fun i hi => by rw [o8 i hi, H7.1 p gp.1 gp.2.1], v8⟩
  clear v8 o8 G0 G1 G2 G3 hX hA hP eG
  refine lm_e180_98 ?_
  unfold lm_q180_98
  rw [lm_K0]
  repeat (first
    | ((with_reducible apply lm_sI); exact rfl)
    | ((with_reducible apply lm_sR); exact rfl)
    | ((with_reducible apply lm_sS); exact rfl; exact rfl)
    | ((with_reducible apply lm_sL); exact rfl)
    | ((with_reducible apply lm_sP); exact rfl; exact rfl)
    | ((with_reducible apply lm_sPL); exact rfl; exact rfl)
    | ((with_reducible apply lm_sAA); exact rfl; exact rfl)
    | ((with_reducible apply lm_sA); (first | exact rfl | assumption); omega)
    | ((with_reducible apply lm_sJ); (first | exact rfl | assumption); omega)
    | ((with_reducible apply lm_sB); (first | exact rfl | assumption); omega)
    | ((with_reducible apply lm_wA); (first | exact rfl | assumption); omega)
    | ((with_reducible apply lm_wJ); (first | exact rfl | assumption); omega)
    | ((with_reducible apply lm_wB); (first | exact rfl | assumption); omega)
    | ((with_reducible apply lm_sAl); (first | exact rfl | assumption); omega)
    | ((with_reducible apply lm_iW); decide))
  refine lm_cV c1 ?_
  repeat (first
    | ((with_reducible apply lm_sI); exact rfl)
    | ((with_reducible apply lm_sR); exact rfl)
    | ((with_reducible apply lm_sS); exact rfl; exact rfl)
    | ((with_reducible apply lm_sL); exact rfl)
    | ((with_reducible apply lm_sP); exact rfl; exact rfl)
    | ((with_reducible apply lm_sPL); exact rfl; exact rfl)
    | ((with_reducible apply lm_sAA); exact rfl; exact rfl)
    | ((with_reducible apply lm_sA); (first | exact rfl | assumption); omega)
    | ((with_reducible apply lm_sJ); (first | exact rfl | assumption); omega)
    | ((with_reducible apply lm_sB); (first | exact rfl | assumption); omega)
    | ((with_reducible apply lm_wA); (first | exact rfl | assumption); omega)
    | ((with_reducible apply lm_wJ); (first | exact rfl | assumption); omega)
    | ((with_reducible apply lm_wB); (first | exact rfl | assumption); omega)
    | ((with_reducible apply lm_sAl); (first | exact rfl | assumption); omega)
    | ((with_reducible apply lm_iW); decide))
  simp only [Nat.reduceDiv, Nat.reduceMod]
  rw [f1.2.1 67 (by decide) (by decide) (by decide), h67]
  refine lm_cV c2 ?_
  repeat (first
    | ((with_reducible apply lm_sI); exact rfl)
    | ((with_reducible apply lm_sR); exact rfl)
    | ((with_reducible apply lm_sS); exact rfl; exact rfl)
    | ((with_reducible apply lm_sL); exact rfl)
    | ((with_reducible apply lm_sP); exact rfl; exact rfl)
    | ((with_reducible apply lm_sPL); exact rfl; exact rfl)
    | ((with_reducible apply lm_sAA); exact rfl; exact rfl)
    | ((with_reducible apply lm_sA); (first | exact rfl | assumption); omega)
    | ((with_reducible apply lm_sJ); (first | exact rfl | assumption); omega)
    | ((with_reducible apply lm_sB); (first | exact rfl | assumption); omega)
    | ((with_reducible apply lm_wA); (first | exact rfl | assumption); omega)
    | ((with_reducible apply lm_wJ); (first | exact rfl | assumption); omega)
    | ((with_reducible apply lm_wB); (first | exact rfl | assumption); omega)
    | ((with_reducible apply lm_sAl); (first | exact rfl | assumption); omega)
    | ((with_reducible apply lm_iW); decide))
  simp only [Nat.reduceDiv, Nat.reduceMod]
  rw [F2.2.1 67 (by decide) (by decide) (by decide), h67]
  refine k3 _ ?_
  have e135 : ∀ (w6 : Int32), lm_rn sc (d + 5) lm_m180.2.2.2.2.1 (lm_reg lm_m180.2.2.2.2.2) (135, [(0, .ref 203), (1, .ref q), (2, .int (Int32.ofNat a)), (3, .int (Int32.ofNat l)), (4, .ref p), (5, .int (Int32.ofNat b)), (6, .int w6), (7, .int (Int32.ofNat (lm_rate k)))], [.int (Int32.ofNat (lm_rate k)), .int (Int32.ofNat (lm_rate k))]) (lm_w m3 n3 x) = some (.ok none, lm_w m8 n8 x) := by
    intro w6
    refine lm_e180_135 ?_
    unfold lm_q180_135
    rw [lm_K3, show Int32.ofInt 8 = Int32.ofNat 8 from rfl, show Int32.ofInt 19 = Int32.ofNat 19 from rfl, show Int32.ofInt 20 = Int32.ofNat 20 from rfl, show Int32.ofInt 12 = Int32.ofNat 12 from rfl]
    refine lm_geT (by omega) (by omega) (Nat.le_refl _) ?_
    repeat (first
    | ((with_reducible apply lm_sI); exact rfl)
    | ((with_reducible apply lm_sR); exact rfl)
    | ((with_reducible apply lm_sS); exact rfl; exact rfl)
    | ((with_reducible apply lm_sL); exact rfl)
    | ((with_reducible apply lm_sP); exact rfl; exact rfl)
    | ((with_reducible apply lm_sPL); exact rfl; exact rfl)
    | ((with_reducible apply lm_sAA); exact rfl; exact rfl)
    | ((with_reducible apply lm_sA); (first | exact rfl | assumption); omega)
    | ((with_reducible apply lm_sJ); (first | exact rfl | assumption); omega)
    | ((with_reducible apply lm_sB); (first | exact rfl | assumption); omega)
    | ((with_reducible apply lm_wA); (first | exact rfl | assumption); omega)
    | ((with_reducible apply lm_wJ); (first | exact rfl | assumption); omega)
    | ((with_reducible apply lm_wB); (first | exact rfl | assumption); omega)
    | ((with_reducible apply lm_sAl); (first | exact rfl | assumption); omega)
    | ((with_reducible apply lm_iW); decide))
    refine lm_cV c4 ?_
    repeat (first
    | ((with_reducible apply lm_sI); exact rfl)
    | ((with_reducible apply lm_sR); exact rfl)
    | ((with_reducible apply lm_sS); exact rfl; exact rfl)
    | ((with_reducible apply lm_sL); exact rfl)
    | ((with_reducible apply lm_sP); exact rfl; exact rfl)
    | ((with_reducible apply lm_sPL); exact rfl; exact rfl)
    | ((with_reducible apply lm_sAA); exact rfl; exact rfl)
    | ((with_reducible apply lm_sA); (first | exact rfl | assumption); omega)
    | ((with_reducible apply lm_sJ); (first | exact rfl | assumption); omega)
    | ((with_reducible apply lm_sB); (first | exact rfl | assumption); omega)
    | ((with_reducible apply lm_wA); (first | exact rfl | assumption); omega)
    | ((with_reducible apply lm_wJ); (first | exact rfl | assumption); omega)
    | ((with_reducible apply lm_wB); (first | exact rfl | assumption); omega)
    | ((with_reducible apply lm_sAl); (first | exact rfl | assumption); omega)
    | ((with_reducible apply lm_iW); decide))
    refine lm_cV c5 ?_
    repeat (first
    | ((with_reducible apply lm_sI); exact rfl)
    | ((with_reducible apply lm_sR); exact rfl)
    | ((with_reducible apply lm_sS); exact rfl; exact rfl)
    | ((with_reducible apply lm_sL); exact rfl)
    | ((with_reducible apply lm_sP); exact rfl; exact rfl)
    | ((with_reducible apply lm_sPL); exact rfl; exact rfl)
    | ((with_reducible apply lm_sAA); exact rfl; exact rfl)
    | ((with_reducible apply lm_sA); (first | exact rfl | assumption); omega)
    | ((with_reducible apply lm_sJ); (first | exact rfl | assumption); omega)
    | ((with_reducible apply lm_sB); (first | exact rfl | assumption); omega)
    | ((with_reducible apply lm_wA); (first | exact rfl | assumption); omega)
    | ((with_reducible apply lm_wJ); (first | exact rfl | assumption); omega)
    | ((with_reducible apply lm_wB); (first | exact rfl | assumption); omega)
    | ((with_reducible apply lm_sAl); (first | exact rfl | assumption); omega)
    | ((with_reducible apply lm_iW); decide))
    refine lm_cV c6 ?_
    repeat (first
    | ((with_reducible apply lm_sI); exact rfl)
    | ((with_reducible apply lm_sR); exact rfl)
    | ((with_reducible apply lm_sS); exact rfl; exact rfl)
    | ((with_reducible apply lm_sL); exact rfl)
    | ((with_reducible apply lm_sP); exact rfl; exact rfl)
    | ((with_reducible apply lm_sPL); exact rfl; exact rfl)
    | ((with_reducible apply lm_sAA); exact rfl; exact rfl)
    | ((with_reducible apply lm_sA); (first | exact rfl | assumption); omega)
    | ((with_reducible apply lm_sJ); (first | exact rfl | assumption); omega)
    | ((with_reducible apply lm_sB); (first | exact rfl | assumption); omega)
    | ((with_reducible apply lm_wA); (first | exact rfl | assumption); omega)
    | ((with_reducible apply lm_wJ); (first | exact rfl | assumption); omega)
    | ((with_reducible apply lm_wB); (first | exact rfl | assumption); omega)
    | ((with_reducible apply lm_sAl); (first | exact rfl | assumption); omega)
    | ((with_reducible apply lm_iW); decide))
    refine lm_cV c7 ?_
    exact c8
  refine lm_e180_120 ?_
  unfold lm_q180_120
  rcases hk with e | e
  · subst e
    exact lm_iT (show (0 : Int32) = 0 by decide) (e135 _)
  · subst e
    exact lm_iF (show ¬ (1 : Int32) = 0 by decide) (e135 _)
/-- bytes are hashed under an address -/
theorem lm_u180 (hC : lm_cx m n = C) (hs : s ≤ 11) (hF : lm_RF m s) (hL : lm_s3 L) (hty : lm_s3 ty) (hn : lm_sn s < l → lm_b8 ty ≠ Int32.ofInt 5 ∧ lm_b8 ty ≠ Int32.ofInt 6) (hq : lm_ar q = some (1, v)) (gq : q ≠ 203 ∧ q ≠ 227) (hav : a + l ≤ v) (hv : v ≤ 70000) (hX : ∀ t, t < l → lm_b8 (m q (a + t)) = X t) (hp : lm_ar p = some (1, w)) (gp : p ≠ 203 ∧ p ≠ 227 ∧ p ≠ 221) (hbw : b + lm_sn s ≤ w) (hw : w ≤ 70000) (hP : ∀ t, t < lm_sn s → lm_b8 (m 358 t) = lm_b8 (P t)) (hA : ∀ t, t < 32 → lm_b8 (m 333 t) = lm_rAd L th tl ty u y z t) : ∃ m' n', lm_cal sc (d + 6) 180 [.ref 203, .ref q, .int (Int32.ofNat a), .int (Int32.ofNat l), .ref p, .int (Int32.ofNat b)] (lm_w m n x) = some (.ok none, lm_w m' n' x) ∧ (∀ r, r ≠ 203 → r ≠ 227 → r ≠ p → m' r = m r) ∧ lm_fG m n m' n' ∧ (∀ i, i < b ∨ b + lm_sn s ≤ i → m' p i = m p i) ∧ ∀ i, i < lm_sn s → m' p (b + i) = ln_tH C s P (ln_ad (lm_sk s) L th tl ty u y z) X l i := by
  have hpar := lm_spar s hs
  by_cases c : s < 6
  · have esk : lm_sk s = true := decide_eq_true c
    have ek : lm_kl s l = 12 := by
      unfold lm_kl lm_wk ln_nk
      rw [if_pos c, if_pos c]
      split <;> rfl
    have eaz : lm_az s = 32 := by unfold lm_az; rw [esk]; rfl
    unfold ln_tH
    rw [ek, eaz, esk, show lm_pre 12 (lm_sn s) = lm_sn s from rfl]
    generalize eG : lm_tG (lm_sn s) (lm_sn s) 32 P (ln_ad true L th tl ty u y z) X = G
    have G0 : ∀ t, t < lm_sn s → lm_b8 (P t) = G t := fun t ht => by rw [← eG]; unfold lm_tG; rw [if_pos ht]
    have G2 : ∀ t, t < 32 → lm_b8 (m 333 t) = G (lm_sn s + t) := fun t ht => by
      rw [hA t ht, lm_rAd_t hL hty, ← eG]
      unfold lm_tG
      rw [if_neg (by omega), if_neg (by omega), if_pos (by omega), Nat.add_sub_cancel_left]
    have G3 : ∀ t, G (lm_sn s + 32 + t) = X t := fun t => by
      rw [← eG]
      unfold lm_tG
      rw [if_neg (by omega), if_neg (by omega), if_neg (by omega), show lm_sn s + 32 + t - lm_sn s - 32 = t by omega]
    obtain ⟨m1, n1, c1, s1, f1⟩ := lm_rS (sc := sc) (d := d + 3) (x := x) (G := G) (k := 12) hC (by decide) (by decide)
    obtain ⟨m2, n2, c2, s2, f2⟩ := lm_rA (sc := sc) (d := d + 1) (x := x) (q := 358) (v := 32) (a := 0) (l := lm_sn s) (L := 0) (by rw [f1.cx]; exact hC) (by decide) (by decide) rfl (by omega) (by decide) (fun t ht => by rw [f1.1 358 (by decide) (by decide), Nat.zero_add, hP t ht, G0 t ht]) s1
    have F2 := f1.tr f2
    rw [Nat.zero_add] at s2
    obtain ⟨m3, n3, c3, s3, f3⟩ := lm_rA (sc := sc) (d := d + 1) (x := x) (q := 333) (v := 32) (a := 0) (l := 32) (by rw [F2.cx]; exact hC) (by decide) (by decide) rfl (by decide) (by decide) (fun t ht => by rw [F2.1 333 (by decide) (by decide), Nat.zero_add]; exact G2 t ht) s2
    have F3 := F2.tr f3
    obtain ⟨m8, n8, c8, r8, g8, o8, v8⟩ := lm_l180a (sc := sc) (d := d) (x := x) (q := q) (v := v) (a := a) (l := l) (p := p) (w := w) (b := b) (N := lm_sn s) (k := 12) (by rw [F3.cx]; exact hC) (Or.inr (Or.inr rfl)) (by rw [F3.2.1 67 (by decide) (by decide) (by decide)]; exact hF.1) hpar.1 hq gq hav hv (fun t ht => by rw [F3.1 q gq.1 gq.2, G3, hX t ht]) hp gp hbw hw s3
    refine ⟨m8, n8, ?_, fun r r1 r2 r3 => by rw [r8 r r1 r2 r3, F3.1 r r1 r2], F3.G.tr g8, fun i hi => by rw [o8 i hi, F3.1 p gp.1 gp.2.1], v8⟩
    clear v8 o8 G0 G2 G3 hX hA hP eG
    refine lm_cal_of (Y := lm_m180) rfl rfl (lm_e180_0 ?_)
    unfold lm_q180_0
    refine lm_sIz rfl ?_
    simp only [Nat.reduceDiv, Nat.reduceMod]
    rw [hF.2.2.2.2.2.2.2, esk]
    refine lm_iF (show ¬ (1 : Int32) = 0 by decide) ?_
    rw [lm_K0, show Int32.ofInt 12 = Int32.ofNat 12 from rfl, lm_K32]
    repeat (first
    | ((with_reducible apply lm_sI); exact rfl)
    | ((with_reducible apply lm_sR); exact rfl)
    | ((with_reducible apply lm_sS); exact rfl; exact rfl)
    | ((with_reducible apply lm_sL); exact rfl)
    | ((with_reducible apply lm_sP); exact rfl; exact rfl)
    | ((with_reducible apply lm_sPL); exact rfl; exact rfl)
    | ((with_reducible apply lm_sAA); exact rfl; exact rfl)
    | ((with_reducible apply lm_sA); (first | exact rfl | assumption); omega)
    | ((with_reducible apply lm_sJ); (first | exact rfl | assumption); omega)
    | ((with_reducible apply lm_sB); (first | exact rfl | assumption); omega)
    | ((with_reducible apply lm_wA); (first | exact rfl | assumption); omega)
    | ((with_reducible apply lm_wJ); (first | exact rfl | assumption); omega)
    | ((with_reducible apply lm_wB); (first | exact rfl | assumption); omega)
    | ((with_reducible apply lm_sAl); (first | exact rfl | assumption); omega)
    | ((with_reducible apply lm_iW); decide))
    refine lm_cV c1 ?_
    repeat (first
    | ((with_reducible apply lm_sI); exact rfl)
    | ((with_reducible apply lm_sR); exact rfl)
    | ((with_reducible apply lm_sS); exact rfl; exact rfl)
    | ((with_reducible apply lm_sL); exact rfl)
    | ((with_reducible apply lm_sP); exact rfl; exact rfl)
    | ((with_reducible apply lm_sPL); exact rfl; exact rfl)
    | ((with_reducible apply lm_sAA); exact rfl; exact rfl)
    | ((with_reducible apply lm_sA); (first | exact rfl | assumption); omega)
    | ((with_reducible apply lm_sJ); (first | exact rfl | assumption); omega)
    | ((with_reducible apply lm_sB); (first | exact rfl | assumption); omega)
    | ((with_reducible apply lm_wA); (first | exact rfl | assumption); omega)
    | ((with_reducible apply lm_wJ); (first | exact rfl | assumption); omega)
    | ((with_reducible apply lm_wB); (first | exact rfl | assumption); omega)
    | ((with_reducible apply lm_sAl); (first | exact rfl | assumption); omega)
    | ((with_reducible apply lm_iW); decide))
    simp only [Nat.reduceDiv, Nat.reduceMod]
    rw [f1.2.1 67 (by decide) (by decide) (by decide), hF.1]
    refine lm_cV c2 ?_
    repeat (first
    | ((with_reducible apply lm_sI); exact rfl)
    | ((with_reducible apply lm_sR); exact rfl)
    | ((with_reducible apply lm_sS); exact rfl; exact rfl)
    | ((with_reducible apply lm_sL); exact rfl)
    | ((with_reducible apply lm_sP); exact rfl; exact rfl)
    | ((with_reducible apply lm_sPL); exact rfl; exact rfl)
    | ((with_reducible apply lm_sAA); exact rfl; exact rfl)
    | ((with_reducible apply lm_sA); (first | exact rfl | assumption); omega)
    | ((with_reducible apply lm_sJ); (first | exact rfl | assumption); omega)
    | ((with_reducible apply lm_sB); (first | exact rfl | assumption); omega)
    | ((with_reducible apply lm_wA); (first | exact rfl | assumption); omega)
    | ((with_reducible apply lm_wJ); (first | exact rfl | assumption); omega)
    | ((with_reducible apply lm_wB); (first | exact rfl | assumption); omega)
    | ((with_reducible apply lm_sAl); (first | exact rfl | assumption); omega)
    | ((with_reducible apply lm_iW); decide))
    refine lm_cV c3 ?_
    exact c8
  · have esk : lm_sk s = false := decide_eq_false c
    have hk : lm_kl s l = 1 ∨ lm_kl s l = 3 := by
      unfold lm_kl lm_wk ln_nk
      rw [if_neg c, if_neg c]
      split
      · split
        · exact Or.inl rfl
        · exact Or.inr rfl
      · exact Or.inl rfl
    have eaz : lm_az s = 22 := by unfold lm_az; rw [esk]; rfl
    have epre : lm_pre (lm_kl s l) (lm_sn s) = lm_rate (lm_kl s l) := by unfold lm_pre; rw [if_neg (by omega)]
    have ek3 : lm_kl s l = 3 ↔ (16 < lm_sn s ∧ lm_sn s < l) := by
      unfold lm_kl lm_wk ln_nk
      rw [if_neg c, if_neg c]
      by_cases c1 : lm_sn s < l
      · rw [if_pos c1]
        by_cases c2 : lm_sn s = 16
        · rw [if_pos c2]; omega
        · rw [if_neg c2]; omega
      · rw [if_neg c1]; omega
    unfold ln_tH
    rw [eaz, epre, esk]
    obtain ⟨m8, n8, c8, r8, g8, o8, v8⟩ := lm_l180c (sc := sc) (d := d) (x := x) (P := P) hC hk hF.1 hpar.1 hq gq hav hv hX hp gp hbw hw hP hA
    refine ⟨m8, n8, ?_, r8, g8, o8, v8⟩
    have e19 : lm_b8 (m 333 19) = lm_b8 ty := by rw [hA 19 (by decide)]; rfl
    clear v8 o8 hX hA hP
    have e85 : lm_rn sc (d + 5) lm_m180.2.2.2.2.1 (lm_reg lm_m180.2.2.2.2.2) (85, [(0, .ref 203), (1, .ref q), (2, .int (Int32.ofNat a)), (3, .int (Int32.ofNat l)), (4, .ref p), (5, .int (Int32.ofNat b))], [.int (if lm_kl s l = 3 then 1 else 0)]) (lm_w m n x) = some (.ok none, lm_w m8 n8 x) := by
      refine lm_e180_85 ?_
      unfold lm_q180_85
      rcases hk with e | e
      · rw [e] at c8 ⊢
        exact lm_iT (show (0 : Int32) = 0 by decide) c8
      · rw [e] at c8 ⊢
        exact lm_iF (show ¬ (1 : Int32) = 0 by decide) c8
    have e84 : lm_kl s l ≠ 3 → lm_rn sc (d + 5) lm_m180.2.2.2.2.1 (lm_reg lm_m180.2.2.2.2.2) (84, [(0, .ref 203), (1, .ref q), (2, .int (Int32.ofNat a)), (3, .int (Int32.ofNat l)), (4, .ref p), (5, .int (Int32.ofNat b))], []) (lm_w m n x) = some (.ok none, lm_w m8 n8 x) := by
      intro hne
      rw [if_neg hne] at e85
      refine lm_e180_84 ?_
      unfold lm_q180_84
      exact e85
    refine lm_cal_of (Y := lm_m180) rfl rfl (lm_e180_0 ?_)
    unfold lm_q180_0
    refine lm_sIz rfl ?_
    simp only [Nat.reduceDiv, Nat.reduceMod]
    rw [hF.2.2.2.2.2.2.2, esk]
    refine lm_iT (show (0 : Int32) = 0 by decide) ?_
    rw [lm_K16]
    repeat (first
    | ((with_reducible apply lm_sI); exact rfl)
    | ((with_reducible apply lm_sR); exact rfl)
    | ((with_reducible apply lm_sS); exact rfl; exact rfl)
    | ((with_reducible apply lm_sL); exact rfl)
    | ((with_reducible apply lm_sP); exact rfl; exact rfl)
    | ((with_reducible apply lm_sPL); exact rfl; exact rfl)
    | ((with_reducible apply lm_sAA); exact rfl; exact rfl)
    | ((with_reducible apply lm_sA); (first | exact rfl | assumption); omega)
    | ((with_reducible apply lm_sJ); (first | exact rfl | assumption); omega)
    | ((with_reducible apply lm_sB); (first | exact rfl | assumption); omega)
    | ((with_reducible apply lm_wA); (first | exact rfl | assumption); omega)
    | ((with_reducible apply lm_wJ); (first | exact rfl | assumption); omega)
    | ((with_reducible apply lm_wB); (first | exact rfl | assumption); omega)
    | ((with_reducible apply lm_sAl); (first | exact rfl | assumption); omega)
    | ((with_reducible apply lm_iW); decide))
    simp only [Nat.reduceDiv, Nat.reduceMod]
    rw [hF.1]
    by_cases c1 : lm_sn s ≤ 16
    · exact lm_leT (by omega) (by omega) c1 (e84 (fun g => by have := ek3.mp g; omega))
    · refine lm_leF (by omega) (by omega) c1 ?_
      repeat (first
    | ((with_reducible apply lm_sI); exact rfl)
    | ((with_reducible apply lm_sR); exact rfl)
    | ((with_reducible apply lm_sS); exact rfl; exact rfl)
    | ((with_reducible apply lm_sL); exact rfl)
    | ((with_reducible apply lm_sP); exact rfl; exact rfl)
    | ((with_reducible apply lm_sPL); exact rfl; exact rfl)
    | ((with_reducible apply lm_sAA); exact rfl; exact rfl)
    | ((with_reducible apply lm_sA); (first | exact rfl | assumption); omega)
    | ((with_reducible apply lm_sJ); (first | exact rfl | assumption); omega)
    | ((with_reducible apply lm_sB); (first | exact rfl | assumption); omega)
    | ((with_reducible apply lm_wA); (first | exact rfl | assumption); omega)
    | ((with_reducible apply lm_wJ); (first | exact rfl | assumption); omega)
    | ((with_reducible apply lm_wB); (first | exact rfl | assumption); omega)
    | ((with_reducible apply lm_sAl); (first | exact rfl | assumption); omega)
    | ((with_reducible apply lm_iW); decide))
      simp only [Nat.reduceDiv, Nat.reduceMod]
      rw [hF.1]
      by_cases c2 : l ≤ lm_sn s
      · exact lm_leT (by omega) (by omega) c2 (e84 (fun g => by have := ek3.mp g; omega))
      · refine lm_leF (by omega) (by omega) c2 ?_
        have h56 := hn (by omega)
        rw [if_pos (ek3.mpr ⟨by omega, by omega⟩)] at e85
        rw [show Int32.ofInt 19 = Int32.ofNat 19 from rfl]
        repeat (first
    | ((with_reducible apply lm_sI); exact rfl)
    | ((with_reducible apply lm_sR); exact rfl)
    | ((with_reducible apply lm_sS); exact rfl; exact rfl)
    | ((with_reducible apply lm_sL); exact rfl)
    | ((with_reducible apply lm_sP); exact rfl; exact rfl)
    | ((with_reducible apply lm_sPL); exact rfl; exact rfl)
    | ((with_reducible apply lm_sAA); exact rfl; exact rfl)
    | ((with_reducible apply lm_sA); (first | exact rfl | assumption); omega)
    | ((with_reducible apply lm_sJ); (first | exact rfl | assumption); omega)
    | ((with_reducible apply lm_sB); (first | exact rfl | assumption); omega)
    | ((with_reducible apply lm_wA); (first | exact rfl | assumption); omega)
    | ((with_reducible apply lm_wJ); (first | exact rfl | assumption); omega)
    | ((with_reducible apply lm_wB); (first | exact rfl | assumption); omega)
    | ((with_reducible apply lm_sAl); (first | exact rfl | assumption); omega)
    | ((with_reducible apply lm_iW); decide))
        rw [e19]
        refine lm_iF h56.1 ?_
        repeat (first
    | ((with_reducible apply lm_sI); exact rfl)
    | ((with_reducible apply lm_sR); exact rfl)
    | ((with_reducible apply lm_sS); exact rfl; exact rfl)
    | ((with_reducible apply lm_sL); exact rfl)
    | ((with_reducible apply lm_sP); exact rfl; exact rfl)
    | ((with_reducible apply lm_sPL); exact rfl; exact rfl)
    | ((with_reducible apply lm_sAA); exact rfl; exact rfl)
    | ((with_reducible apply lm_sA); (first | exact rfl | assumption); omega)
    | ((with_reducible apply lm_sJ); (first | exact rfl | assumption); omega)
    | ((with_reducible apply lm_sB); (first | exact rfl | assumption); omega)
    | ((with_reducible apply lm_wA); (first | exact rfl | assumption); omega)
    | ((with_reducible apply lm_wJ); (first | exact rfl | assumption); omega)
    | ((with_reducible apply lm_wB); (first | exact rfl | assumption); omega)
    | ((with_reducible apply lm_sAl); (first | exact rfl | assumption); omega)
    | ((with_reducible apply lm_iW); decide))
        rw [e19]
        refine lm_iF h56.2 ?_
        exact e85
end LMTE
