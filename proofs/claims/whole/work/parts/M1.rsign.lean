/-! ===== dsaSign of the reference: the seeds, the secret ===== -/
theorem lm_bt_sh2 {K : Nat → Int32} {a0 a b d : Nat} : ln_bv (ln_bt (fun t => K (a0 + t))) (8 * a + b) d = ln_bv (ln_bt (fun t => K (a0 + a + t))) b d := by
  refine lm_bv_ext fun t _ => ?_
  unfold ln_bt
  dsimp only
  rw [show (8 * a + b + t) / 8 = a + (b + t) / 8 by omega, show (8 * a + b + t) % 8 = (b + t) % 8 by omega, Nat.add_assoc]
theorem lm_bt_K {M K : Nat → Int32} {a0 D T d : Nat} (h : ∀ j, j < D → lm_b8 (M j) = lm_b8 (K j)) (hT : 8 * a0 + T + d ≤ 8 * D) : ln_bv (ln_bt (fun j => M (a0 + j))) T d = ln_bv (ln_bt (fun j => K (a0 + j))) T d := by
  refine lm_bv_ext fun t ht => ?_
  unfold ln_bt
  dsimp only
  rw [lm_b8_ne (h _ (by omega))]
section LMSE2
variable {sc : lm_H} {C : lm_CX} {d s kk xl ml rl : Nat} {m m0 : lm_MI} {n n0 : lm_ML} {x : lm_H × Nat × Nat} {K R X Mg : Nat → Int32}
/-- the seeds -/
theorem lm_l30a (hs : s ≤ 2) (hR : lm_RD C s m n) (hrl : rl = 0 ∨ rl = 32) (h0 : m 214 0 = Int32.ofNat rl) (hK : ∀ u, u < lm_dss s → lm_b8 (m 208 u) = lm_b8 (K u)) (hRr : ∀ u, u < rl → lm_b8 (m 206 u) = lm_b8 (R u)) (hk : kk ≤ 13) (hxk : kk = 0 ∨ xl ≤ 255) (hx : m 214 4 = Int32.ofNat xl) (hm : m 214 3 = Int32.ofNat ml) (hml : ml ≤ 65536) (hX : ∀ t, t < xl → lm_b8 (m 210 t) = lm_b8 (X t)) (hM : ∀ t, t < ml → lm_b8 (m 209 t) = lm_b8 (Mg t)) : ∃ m' n', ((∀ r, r ≠ 203 → r ≠ 227 → r ≠ 329 → r ≠ 330 → r ≠ 331 → m' r = m r) ∧ lm_fG m n m' n' ∧ (∀ i, i < 64 → m' 330 i = lm_sV C K kk X xl Mg ml i) ∧ ∀ i, i < 64 → m' 331 i = lm_sU C K R rl (lm_sV C K kk X xl Mg ml) i) ∧ ∀ RR, lm_rn sc (d + 7) lm_m30.2.2.2.2.1 (lm_reg lm_m30.2.2.2.2.2) (215, [(0, .ref 203)], [.int (Int32.ofNat (lm_xb s))]) (lm_w m' n' x) = some RR → (lm_bind (lm_gR 4406 203) fun v3 => lm_bind (lm_aaR sc v3 (Int32.ofInt 2)) fun v4 => lm_bind (lm_sel [(11, 97)] (some (.ref 203))) fun y5 => lm_bind (lm_asV (lm_cal sc (d + 7) y5 [.ref 203, .ref v4, .int (Int32.ofInt 64), .int (ln_kd kk)])) fun _ => lm_bind (lm_sel [(11, 61)] (some (.ref 203))) fun y6 => lm_bind (lm_asV (lm_cal sc (d + 7) y6 [.ref 203, .int (Int32.ofInt 12)])) fun _ => lm_bind (lm_gR 4406 203) fun v7 => lm_bind (lm_aaR sc v7 (Int32.ofInt 2)) fun v8 => lm_bind (lm_sel [(11, 62)] (some (.ref 203))) fun y9 => lm_bind (lm_asV (lm_cal sc (d + 7) y9 [.ref 203, .ref v8, .int (Int32.ofInt 32), .int (Int32.ofInt 32)])) fun _ => lm_rn sc (d + 7) lm_m30.2.2.2.2.1 (lm_reg lm_m30.2.2.2.2.2) (143, [(0, .ref 203), (3, .int (Int32.ofInt 0))], [])) (lm_w m n x) = some RR := by
  have hkl := lm_dkl hs
  have hsz := lm_xsz s hs
  have hb1 := lm_xb1_ge s
  have hde := lm_de_2 hs
  obtain ⟨m1, n1, c1, f1, g1, v1⟩ := lm_u97 (sc := sc) (C := C) (d := d) (m := m) (n := n) (x := x) (kk := kk) (xl := xl) (ml := ml) (X := X) (Mg := Mg) (q := 208) (v := 65536) (a := 64) (a' := 64) (T := K) hR.1 hk hxk hx hm hml hX hM rfl (by decide) (by decide) (by decide) (fun t ht => hK _ (by omega))
  have C1 : lm_cx m1 n1 = C := (g1.B.cx (f1 221 (by decide) (by decide) (by decide) (by decide))).trans hR.1
  generalize eV : lm_sV C K kk X xl Mg ml = V
  have v1' : ∀ i, i < 64 → m1 330 i = V i := fun i hi => by rw [v1 i hi, ← eV]; rfl
  generalize eG : ln_rG K R V rl = G
  have hG : ∀ t, G t = if t < 32 then lm_b8 (K (32 + t)) else if t < 64 then (if t - 32 < rl then lm_b8 (R (t - 32)) else 0) else lm_b8 (V (t - 64)) := fun t => by rw [← eG, ln_rG]
  obtain ⟨m2, n2, c2, s2, f2⟩ := lm_rS (sc := sc) (d := d + 5) (m := m1) (n := n1) (x := x) (k := 12) (G := G) C1 (by decide) (by decide)
  have C2 := f2.cx.trans C1
  obtain ⟨m3, n3, c3, s3, f3⟩ := lm_rA (sc := sc) (d := d + 3) (m := m2) (n := n2) (x := x) (k := 12) (q := 208) (v := 65536) (a := 32) (l := 32) (L := 0) (G := G) C2 (by decide) (by decide) rfl (by decide) (by decide) (fun t ht => by
    rw [f2.1 208 (by decide) (by decide), f1 208 (by decide) (by decide) (by decide) (by decide), Nat.zero_add, hG, if_pos ht]
    exact hK _ (by omega)) s2
  have C3 := f3.cx.trans C2
  rw [Nat.zero_add] at s3
  have F3 := f2.tr f3
  obtain ⟨m4, n4, ⟨a1, a2⟩, k4⟩ := lm_lp (sc := sc) (d := d + 7) (b := 32) (hs := lm_m30.2.2.2.2.1) (code := lm_reg lm_m30.2.2.2.2.2) (x := x) (fr := fun i => (143, [(0, .ref 203), (3, .int (Int32.ofNat i))], [])) (I := fun i m' n' => lm_fh m1 n1 m' n' ∧ lm_rH m' n' C 12 G (32 + i)) (fun i hi m4 n4 ⟨a1, a2⟩ => by
    have C4 : lm_cx m4 n4 = C := a1.cx.trans C1
    have e0 : m4 214 0 = Int32.ofNat rl := by rw [a1.1 214 (by decide) (by decide), f1 214 (by decide) (by decide) (by decide) (by decide)]; exact h0
    generalize ew : (if rl = 0 then Int32.ofInt 0 else lm_b8 (m4 206 i)) = w
    have hw : lm_b8 w = G (32 + i) := by
      rw [hG, if_neg (show ¬ 32 + i < 32 by omega), if_pos (show 32 + i < 64 by omega), Nat.add_sub_cancel_left, ← ew]
      rcases hrl with e | e
      · rw [if_pos e, if_neg (show ¬ i < rl by omega)]
        decide
      · rw [if_neg (show ¬ rl = 0 by omega), if_pos (show i < rl by omega), lm_b8b8, a1.1 206 (by decide) (by decide), f1 206 (by decide) (by decide) (by decide) (by decide)]
        exact hRr i (by omega)
    obtain ⟨m5, n5, c5, s5, f5⟩ := lm_rB (sc := sc) (d := d + 4) (m := m4) (n := n4) (x := x) (k := 12) (w := w) (L := 32 + i) (G := G) C4 (by decide) hw a2
    refine ⟨m5, n5, ⟨a1.tr f5, s5⟩, fun RR KK => lm_e30_143 ?_⟩
    have e171 : lm_rn sc (d + 7) lm_m30.2.2.2.2.1 (lm_reg lm_m30.2.2.2.2.2) (171, [(0, .ref 203), (3, .int (Int32.ofNat i))], [.int w, .ref 203]) (lm_w m4 n4 x) = some RR := by
      refine lm_e30_171 ?_
      unfold lm_q30_171
      repeat (first
    | ((with_reducible apply lm_sI); exact rfl)
    | ((with_reducible apply lm_sR); exact rfl)
    | ((with_reducible apply lm_sS); exact rfl; exact rfl)
    | ((with_reducible apply lm_sL); exact rfl)
    | ((with_reducible apply lm_sP); exact rfl; exact rfl)
    | ((with_reducible apply lm_sPL); exact rfl; exact rfl)
    | ((with_reducible apply lm_sAA); exact rfl; exact rfl)
    | ((with_reducible apply lm_sA); (first | exact rfl | assumption); omega)
    | ((with_reducible apply lm_sJ); (first | exact rfl | assumption); omega)
    | ((with_reducible apply lm_sB); (first | exact rfl | assumption); omega)
    | ((with_reducible apply lm_wA); (first | exact rfl | assumption); omega)
    | ((with_reducible apply lm_wJ); (first | exact rfl | assumption); omega)
    | ((with_reducible apply lm_wB); (first | exact rfl | assumption); omega)
    | ((with_reducible apply lm_sAl); (first | exact rfl | assumption); omega)
    | ((with_reducible apply lm_iW); decide))
      refine lm_cV c5 ?_
      rw [lm_K1, lm_oo]
      exact KK
    clear a2 s5
    unfold lm_q30_143
    rw [lm_K32]
    refine lm_geF (by omega) (by omega) (by omega) ?_
    rw [show (4410 : Nat) = 4410 from rfl, lm_K0]
    repeat (first
    | ((with_reducible apply lm_sI); exact rfl)
    | ((with_reducible apply lm_sR); exact rfl)
    | ((with_reducible apply lm_sS); exact rfl; exact rfl)
    | ((with_reducible apply lm_sL); exact rfl)
    | ((with_reducible apply lm_sP); exact rfl; exact rfl)
    | ((with_reducible apply lm_sPL); exact rfl; exact rfl)
    | ((with_reducible apply lm_sAA); exact rfl; exact rfl)
    | ((with_reducible apply lm_sA); (first | exact rfl | assumption); omega)
    | ((with_reducible apply lm_sJ); (first | exact rfl | assumption); omega)
    | ((with_reducible apply lm_sB); (first | exact rfl | assumption); omega)
    | ((with_reducible apply lm_wA); (first | exact rfl | assumption); omega)
    | ((with_reducible apply lm_wJ); (first | exact rfl | assumption); omega)
    | ((with_reducible apply lm_wB); (first | exact rfl | assumption); omega)
    | ((with_reducible apply lm_sAl); (first | exact rfl | assumption); omega)
    | ((with_reducible apply lm_iW); decide))
    rw [e0]
    rcases hrl with e | e
    · rw [if_pos e] at ew
      rw [e]
      refine lm_iF (show ¬ ¬ Int32.ofNat 0 = 0 by decide) ?_
      rw [show Int32.ofNat 0 = w from ew]
      exact e171
    · rw [if_neg (by omega)] at ew
      rw [e]
      refine lm_iT (show ¬ Int32.ofNat 32 = 0 by decide) ?_
      repeat (first
    | ((with_reducible apply lm_sI); exact rfl)
    | ((with_reducible apply lm_sR); exact rfl)
    | ((with_reducible apply lm_sS); exact rfl; exact rfl)
    | ((with_reducible apply lm_sL); exact rfl)
    | ((with_reducible apply lm_sP); exact rfl; exact rfl)
    | ((with_reducible apply lm_sPL); exact rfl; exact rfl)
    | ((with_reducible apply lm_sAA); exact rfl; exact rfl)
    | ((with_reducible apply lm_sA); (first | exact rfl | assumption); omega)
    | ((with_reducible apply lm_sJ); (first | exact rfl | assumption); omega)
    | ((with_reducible apply lm_sB); (first | exact rfl | assumption); omega)
    | ((with_reducible apply lm_wA); (first | exact rfl | assumption); omega)
    | ((with_reducible apply lm_wJ); (first | exact rfl | assumption); omega)
    | ((with_reducible apply lm_wB); (first | exact rfl | assumption); omega)
    | ((with_reducible apply lm_sAl); (first | exact rfl | assumption); omega)
    | ((with_reducible apply lm_iW); decide))
      rw [ew]
      exact e171) 32 0 (by omega) m3 n3 ⟨F3, s3⟩
  have C4 : lm_cx m4 n4 = C := a1.cx.trans C1
  obtain ⟨m5, n5, c5, s5, f5⟩ := lm_rA (sc := sc) (d := d + 3) (m := m4) (n := n4) (x := x) (k := 12) (q := 330) (v := 64) (a := 0) (l := 64) (L := 32 + 32) (G := G) C4 (by decide) (by decide) rfl (by decide) (by decide) (fun t ht => by
    rw [a1.1 330 (by decide) (by decide), Nat.zero_add, v1' t ht, hG, if_neg (by omega), if_neg (by omega), show 32 + 32 + t - 64 = t by omega]) a2
  have C5 := f5.cx.trans C4
  obtain ⟨m6, n6, c6, f6⟩ := lm_rG (sc := sc) (d := d + 2) (m := m5) (n := n5) (x := x) (k := 12) (q := 331) (v := 64) (a := 0) (l := 64) C5 (by decide) (by decide) rfl (by decide) (by decide) (fun h => absurd h (by decide)) s5
  have F6 := a1.tr (f5.tr f6)
  generalize eM7 : lm_fil m6 331 0 (0 + 64) (fun i => lm_Hm C 12 G (32 + 32 + 64) (i - 0)) = M7 at c6
  have r7 : ∀ r, r ≠ 331 → M7 r = m6 r := fun r hr => by rw [← eM7, lm_fl_row hr]
  have G7 : lm_fG m n M7 n6 := g1.tr (F6.G.tr ⟨fun j _ _ _ => by rw [r7 203 (by decide)], fun _ _ _ _ _ _ _ => rfl⟩)
  refine ⟨M7, n6, ⟨fun r q1 q2 q3 q4 q5 => by rw [r7 r q5, F6.1 r q1 q2, f1 r q1 q2 q3 q4], G7, fun i hi => by rw [r7 330 (by decide), F6.1 330 (by decide) (by decide), v1' i hi], fun i hi => ?_⟩, fun RR KK => ?_⟩
  · rw [← eM7, lm_fl_in (by omega), Nat.sub_zero]
    unfold lm_sU
    rw [eG]
  · clear v1 v1' s2 s3 a2 s5 hG
    rw [lm_K2, lm_K64, lm_K12, lm_K32, lm_K0]
    repeat (first
    | ((with_reducible apply lm_sI); exact rfl)
    | ((with_reducible apply lm_sR); exact rfl)
    | ((with_reducible apply lm_sS); exact rfl; exact rfl)
    | ((with_reducible apply lm_sL); exact rfl)
    | ((with_reducible apply lm_sP); exact rfl; exact rfl)
    | ((with_reducible apply lm_sPL); exact rfl; exact rfl)
    | ((with_reducible apply lm_sAA); exact rfl; exact rfl)
    | ((with_reducible apply lm_sA); (first | exact rfl | assumption); omega)
    | ((with_reducible apply lm_sJ); (first | exact rfl | assumption); omega)
    | ((with_reducible apply lm_sB); (first | exact rfl | assumption); omega)
    | ((with_reducible apply lm_wA); (first | exact rfl | assumption); omega)
    | ((with_reducible apply lm_wJ); (first | exact rfl | assumption); omega)
    | ((with_reducible apply lm_wB); (first | exact rfl | assumption); omega)
    | ((with_reducible apply lm_sAl); (first | exact rfl | assumption); omega)
    | ((with_reducible apply lm_iW); decide))
    refine lm_cV c1 ?_
    repeat (first
    | ((with_reducible apply lm_sI); exact rfl)
    | ((with_reducible apply lm_sR); exact rfl)
    | ((with_reducible apply lm_sS); exact rfl; exact rfl)
    | ((with_reducible apply lm_sL); exact rfl)
    | ((with_reducible apply lm_sP); exact rfl; exact rfl)
    | ((with_reducible apply lm_sPL); exact rfl; exact rfl)
    | ((with_reducible apply lm_sAA); exact rfl; exact rfl)
    | ((with_reducible apply lm_sA); (first | exact rfl | assumption); omega)
    | ((with_reducible apply lm_sJ); (first | exact rfl | assumption); omega)
    | ((with_reducible apply lm_sB); (first | exact rfl | assumption); omega)
    | ((with_reducible apply lm_wA); (first | exact rfl | assumption); omega)
    | ((with_reducible apply lm_wJ); (first | exact rfl | assumption); omega)
    | ((with_reducible apply lm_wB); (first | exact rfl | assumption); omega)
    | ((with_reducible apply lm_sAl); (first | exact rfl | assumption); omega)
    | ((with_reducible apply lm_iW); decide))
    refine lm_cV c2 ?_
    repeat (first
    | ((with_reducible apply lm_sI); exact rfl)
    | ((with_reducible apply lm_sR); exact rfl)
    | ((with_reducible apply lm_sS); exact rfl; exact rfl)
    | ((with_reducible apply lm_sL); exact rfl)
    | ((with_reducible apply lm_sP); exact rfl; exact rfl)
    | ((with_reducible apply lm_sPL); exact rfl; exact rfl)
    | ((with_reducible apply lm_sAA); exact rfl; exact rfl)
    | ((with_reducible apply lm_sA); (first | exact rfl | assumption); omega)
    | ((with_reducible apply lm_sJ); (first | exact rfl | assumption); omega)
    | ((with_reducible apply lm_sB); (first | exact rfl | assumption); omega)
    | ((with_reducible apply lm_wA); (first | exact rfl | assumption); omega)
    | ((with_reducible apply lm_wJ); (first | exact rfl | assumption); omega)
    | ((with_reducible apply lm_wB); (first | exact rfl | assumption); omega)
    | ((with_reducible apply lm_sAl); (first | exact rfl | assumption); omega)
    | ((with_reducible apply lm_iW); decide))
    refine lm_cV c3 ?_
    refine k4 RR (lm_e30_143 ?_)
    unfold lm_q30_143
    rw [lm_K32]
    refine lm_geT (by omega) (by omega) (by omega) ?_
    rw [lm_K0, lm_K64]
    repeat (first
    | ((with_reducible apply lm_sI); exact rfl)
    | ((with_reducible apply lm_sR); exact rfl)
    | ((with_reducible apply lm_sS); exact rfl; exact rfl)
    | ((with_reducible apply lm_sL); exact rfl)
    | ((with_reducible apply lm_sP); exact rfl; exact rfl)
    | ((with_reducible apply lm_sPL); exact rfl; exact rfl)
    | ((with_reducible apply lm_sAA); exact rfl; exact rfl)
    | ((with_reducible apply lm_sA); (first | exact rfl | assumption); omega)
    | ((with_reducible apply lm_sJ); (first | exact rfl | assumption); omega)
    | ((with_reducible apply lm_sB); (first | exact rfl | assumption); omega)
    | ((with_reducible apply lm_wA); (first | exact rfl | assumption); omega)
    | ((with_reducible apply lm_wJ); (first | exact rfl | assumption); omega)
    | ((with_reducible apply lm_wB); (first | exact rfl | assumption); omega)
    | ((with_reducible apply lm_sAl); (first | exact rfl | assumption); omega)
    | ((with_reducible apply lm_iW); decide))
    refine lm_cV c5 ?_
    repeat (first
    | ((with_reducible apply lm_sI); exact rfl)
    | ((with_reducible apply lm_sR); exact rfl)
    | ((with_reducible apply lm_sS); exact rfl; exact rfl)
    | ((with_reducible apply lm_sL); exact rfl)
    | ((with_reducible apply lm_sP); exact rfl; exact rfl)
    | ((with_reducible apply lm_sPL); exact rfl; exact rfl)
    | ((with_reducible apply lm_sAA); exact rfl; exact rfl)
    | ((with_reducible apply lm_sA); (first | exact rfl | assumption); omega)
    | ((with_reducible apply lm_sJ); (first | exact rfl | assumption); omega)
    | ((with_reducible apply lm_sB); (first | exact rfl | assumption); omega)
    | ((with_reducible apply lm_wA); (first | exact rfl | assumption); omega)
    | ((with_reducible apply lm_wJ); (first | exact rfl | assumption); omega)
    | ((with_reducible apply lm_wB); (first | exact rfl | assumption); omega)
    | ((with_reducible apply lm_sAl); (first | exact rfl | assumption); omega)
    | ((with_reducible apply lm_iW); decide))
    refine lm_cV c6 ?_
    repeat (first
    | ((with_reducible apply lm_sI); exact rfl)
    | ((with_reducible apply lm_sR); exact rfl)
    | ((with_reducible apply lm_sS); exact rfl; exact rfl)
    | ((with_reducible apply lm_sL); exact rfl)
    | ((with_reducible apply lm_sP); exact rfl; exact rfl)
    | ((with_reducible apply lm_sPL); exact rfl; exact rfl)
    | ((with_reducible apply lm_sAA); exact rfl; exact rfl)
    | ((with_reducible apply lm_sA); (first | exact rfl | assumption); omega)
    | ((with_reducible apply lm_sJ); (first | exact rfl | assumption); omega)
    | ((with_reducible apply lm_sB); (first | exact rfl | assumption); omega)
    | ((with_reducible apply lm_wA); (first | exact rfl | assumption); omega)
    | ((with_reducible apply lm_wJ); (first | exact rfl | assumption); omega)
    | ((with_reducible apply lm_wB); (first | exact rfl | assumption); omega)
    | ((with_reducible apply lm_sAl); (first | exact rfl | assumption); omega)
    | ((with_reducible apply lm_iW); decide))
    simp only [Nat.reduceDiv, Nat.reduceMod]
    rw [G7.1 43 (by decide) (by decide) (by decide), hR.2.2.2.1, lm_K2]
    by_cases c : lm_de s = 2
    · refine lm_neF (by omega) (by omega) (by omega) ?_
      rw [show lm_xb s = 3 by unfold lm_xb; rw [if_pos c]] at KK
      exact KK
    · refine lm_neT (by omega) (by omega) c ?_
      rw [show lm_xb s = 4 by unfold lm_xb; rw [if_neg c]] at KK
      exact KK
/-- the secret's polynomials -/
theorem lm_l30b (hs : s ≤ 2) (hR : lm_RD C s m n) (hK : ∀ u, u < lm_dss s → lm_b8 (m 208 u) = lm_b8 (K u)) : ∃ m', ((∀ r, r ≠ 203 → (r < 270 ∨ 292 < r) → m' r = m r) ∧ (∀ j, j ≠ 24 → m' 203 j = m 203 j) ∧ (∀ t, t < lm_dl s + lm_dk s → ∀ c, c < 256 → m' (270 + t) c = Int32.ofInt (lm_zS K s t c)) ∧ ∀ i, i < lm_dk s → ∀ c, c < 256 → m' (270 + (15 + i)) c = Int32.ofInt (lm_zT K s i c)) ∧ ∀ RR, lm_rn sc (d + 7) lm_m30.2.2.2.2.1 (lm_reg lm_m30.2.2.2.2.2) (318, [(0, .ref 203), (4, .int (Int32.ofNat 0))], []) (lm_w m' n x) = some RR → lm_rn sc (d + 7) lm_m30.2.2.2.2.1 (lm_reg lm_m30.2.2.2.2.2) (215, [(0, .ref 203)], [.int (Int32.ofNat (lm_xb s))]) (lm_w m n x) = some RR := by
  have hkl := lm_dkl hs
  have hsz := lm_xsz s hs
  have hxb := lm_xb_b s
  have hde := lm_de_2 hs
  have h8 := lm_xb8 hs
  have e1 : lm_xb1 s = 128 + 32 * lm_xb s * (lm_dl s + lm_dk s) := by unfold lm_xb1; rfl
  have e8 : ∀ t, lm_xb s * (256 * t) = 8 * (32 * lm_xb s * t) := fun t => by
    have c : lm_xb s = 3 ∨ lm_xb s = 4 := by omega
    rcases c with c | c <;> rw [c] <;> omega
  have hat : ∀ t, t ≤ lm_dl s + lm_dk s → 32 * lm_xb s * t ≤ 32 * lm_xb s * (lm_dl s + lm_dk s) := fun t ht => Nat.mul_le_mul_left _ ht
  generalize eM0 : lm_u m 203 24 (Int32.ofNat 0) = M0
  have r0 : ∀ r, r ≠ 203 → M0 r = m r := fun r hr => by rw [← eM0, lm_u_row hr]
  have f0 : ∀ j, j ≠ 24 → M0 203 j = m 203 j := fun j hj => by rw [← eM0, lm_u_ne (fun g => hj g.2)]
  obtain ⟨m1, n1, ⟨en, g1, g2, g3, g4⟩, k1⟩ := lm_lp (sc := sc) (d := d + 7) (b := lm_dl s + lm_dk s) (hs := lm_m30.2.2.2.2.1) (code := lm_reg lm_m30.2.2.2.2.2) (x := x) (fr := fun t => (224, [(0, .ref 203), (3, .int (Int32.ofNat (lm_xb s))), (4, .int (Int32.ofNat t))], [])) (I := fun t m' n' => n' = n ∧ (∀ r, r ≠ 203 → (r < 270 ∨ 284 < r) → m' r = m r) ∧ (∀ j, j ≠ 24 → m' 203 j = m 203 j) ∧ m' 203 24 = Int32.ofNat (lm_xb s * (256 * t)) ∧ ∀ t', t' < t → ∀ c, c < 256 → m' (270 + t') c = Int32.ofInt (lm_zS K s t' c)) (fun t ht m1 n1 ⟨en, g1, g2, g3, g4⟩ => by
    have h1 := hat (t + 1) (by omega)
    have h2 := e8 t
    have h3 := e8 (t + 1)
    have e208 : m1 208 = m 208 := g1 208 (by decide) (by decide)
    obtain ⟨m2, c2, f2, o2, t2, v2⟩ := lm_u98 (sc := sc) (d := d + 4) (m := m1) (n := n1) (x := x) (q := 208) (v := 65536) (p := 270 + t) (a := 128) (T := lm_xb s * (256 * t)) (bits := lm_xb s) (Bd := (lm_de s : Int)) rfl (by decide) (lm_arY t (by omega)) (by omega) g3 (by rw [← Nat.mul_add, show 256 * t + 256 = 256 * (t + 1) by omega]; omega) (by decide) (by omega) (by decide)
    rw [e208] at v2
    rw [← Nat.mul_add, show 256 * t + 256 = 256 * (t + 1) by omega] at t2
    refine ⟨m2, n1, ⟨en, fun r q1 q2 => by rw [f2 r q1 (by omega), g1 r q1 q2], fun j hj => by rw [o2 j hj, g2 j hj], t2, fun t' ht' c hc => ?_⟩, fun RR KK => lm_e30_224 ?_⟩
    · by_cases c0 : t' = t
      · subst c0
        have hcb : lm_xb s * c + lm_xb s ≤ lm_xb s * 256 := by
          rw [← Nat.mul_succ]
          exact Nat.mul_le_mul_left _ hc
        have h4 : lm_xb s * (256 * (t' + 1)) = lm_xb s * (256 * t') + lm_xb s * 256 := by rw [← Nat.mul_add, show 256 * t' + 256 = 256 * (t' + 1) by omega]
        rw [v2 c hc, lm_bt_K hK (by omega), h2, Nat.mul_comm (lm_xb s) c, lm_bt_sh2]
        rfl
      · rw [f2 _ (by omega) (by omega)]
        exact g4 t' (by omega) c hc
    · clear g4 v2
      unfold lm_q30_224
      repeat (first
    | ((with_reducible apply lm_sI); exact rfl)
    | ((with_reducible apply lm_sR); exact rfl)
    | ((with_reducible apply lm_sS); exact rfl; exact rfl)
    | ((with_reducible apply lm_sL); exact rfl)
    | ((with_reducible apply lm_sP); exact rfl; exact rfl)
    | ((with_reducible apply lm_sPL); exact rfl; exact rfl)
    | ((with_reducible apply lm_sAA); exact rfl; exact rfl)
    | ((with_reducible apply lm_sA); (first | exact rfl | assumption); omega)
    | ((with_reducible apply lm_sJ); (first | exact rfl | assumption); omega)
    | ((with_reducible apply lm_sB); (first | exact rfl | assumption); omega)
    | ((with_reducible apply lm_wA); (first | exact rfl | assumption); omega)
    | ((with_reducible apply lm_wJ); (first | exact rfl | assumption); omega)
    | ((with_reducible apply lm_wB); (first | exact rfl | assumption); omega)
    | ((with_reducible apply lm_sAl); (first | exact rfl | assumption); omega)
    | ((with_reducible apply lm_iW); decide))
      simp only [Nat.reduceDiv, Nat.reduceMod]
      rw [g2 32 (by decide), g2 42 (by decide), hR.2.1, hR.2.2.1, lm_oo]
      refine lm_geF (by omega) (by omega) (by omega) ?_
      rw [lm_K2, lm_K128]
      repeat (first
    | ((with_reducible apply lm_sI); exact rfl)
    | ((with_reducible apply lm_sR); exact rfl)
    | ((with_reducible apply lm_sS); exact rfl; exact rfl)
    | ((with_reducible apply lm_sL); exact rfl)
    | ((with_reducible apply lm_sP); exact rfl; exact rfl)
    | ((with_reducible apply lm_sPL); exact rfl; exact rfl)
    | ((with_reducible apply lm_sAA); exact rfl; exact rfl)
    | ((with_reducible apply lm_sA); (first | exact rfl | assumption); omega)
    | ((with_reducible apply lm_sJ); (first | exact rfl | assumption); omega)
    | ((with_reducible apply lm_sB); (first | exact rfl | assumption); omega)
    | ((with_reducible apply lm_wA); (first | exact rfl | assumption); omega)
    | ((with_reducible apply lm_wJ); (first | exact rfl | assumption); omega)
    | ((with_reducible apply lm_wB); (first | exact rfl | assumption); omega)
    | ((with_reducible apply lm_sAl); (first | exact rfl | assumption); omega)
    | ((with_reducible apply lm_iW); decide))
      refine lm_sAA rfl (lm_roY t (by omega)) ?_
      repeat (first
    | ((with_reducible apply lm_sI); exact rfl)
    | ((with_reducible apply lm_sR); exact rfl)
    | ((with_reducible apply lm_sS); exact rfl; exact rfl)
    | ((with_reducible apply lm_sL); exact rfl)
    | ((with_reducible apply lm_sP); exact rfl; exact rfl)
    | ((with_reducible apply lm_sPL); exact rfl; exact rfl)
    | ((with_reducible apply lm_sAA); exact rfl; exact rfl)
    | ((with_reducible apply lm_sA); (first | exact rfl | assumption); omega)
    | ((with_reducible apply lm_sJ); (first | exact rfl | assumption); omega)
    | ((with_reducible apply lm_sB); (first | exact rfl | assumption); omega)
    | ((with_reducible apply lm_wA); (first | exact rfl | assumption); omega)
    | ((with_reducible apply lm_wJ); (first | exact rfl | assumption); omega)
    | ((with_reducible apply lm_wB); (first | exact rfl | assumption); omega)
    | ((with_reducible apply lm_sAl); (first | exact rfl | assumption); omega)
    | ((with_reducible apply lm_iW); decide))
      simp only [Nat.reduceDiv, Nat.reduceMod]
      rw [g2 43 (by decide), hR.2.2.2.1, lm_oN (lm_de s)]
      refine lm_cV c2 ?_
      rw [lm_K1, lm_oo]
      exact KK) (lm_dl s + lm_dk s) 0 (by omega) M0 n ⟨rfl, fun r q1 _ => r0 r q1, f0, by rw [← eM0, lm_u_eq]; rfl, fun t' ht' => absurd ht' (by omega)⟩
  subst en
  generalize eT : lm_xb s * (256 * (lm_dl s + lm_dk s)) = T0 at *
  obtain ⟨m2, n2, ⟨en, a1, a2, a3, a4⟩, k2⟩ := lm_lp (sc := sc) (d := d + 7) (b := lm_dk s) (hs := lm_m30.2.2.2.2.1) (code := lm_reg lm_m30.2.2.2.2.2) (x := x) (fr := fun i => (272, [(0, .ref 203), (4, .int (Int32.ofNat i))], [])) (I := fun i m' n' => n' = n1 ∧ (∀ r, r ≠ 203 → (r < 285 ∨ 292 < r) → m' r = m1 r) ∧ (∀ j, j ≠ 24 → m' 203 j = m 203 j) ∧ m' 203 24 = Int32.ofNat (T0 + 13 * (256 * i)) ∧ ∀ i', i' < i → ∀ c, c < 256 → m' (270 + (15 + i')) c = Int32.ofInt (lm_zT K s i' c)) (fun i hi m2 n2 ⟨en, a1, a2, a3, a4⟩ => by
    have e208 : m2 208 = m 208 := by rw [a1 208 (by decide) (by decide), g1 208 (by decide) (by decide)]
    obtain ⟨m3, c3, f3, o3, t3, v3⟩ := lm_u98 (sc := sc) (d := d + 4) (m := m2) (n := n2) (x := x) (q := 208) (v := 65536) (p := 270 + (15 + i)) (a := 128) (T := T0 + 13 * (256 * i)) (bits := 13) (Bd := 4096) rfl (by decide) (lm_arY (15 + i) (by omega)) (by omega) a3 (by omega) (by decide) (by decide) (by decide)
    rw [e208] at v3
    rw [show T0 + 13 * (256 * i) + 13 * 256 = T0 + 13 * (256 * (i + 1)) by omega] at t3
    refine ⟨m3, n2, ⟨en, fun r q1 q2 => by rw [f3 r q1 (by omega), a1 r q1 q2], fun j hj => by rw [o3 j hj, a2 j hj], t3, fun i' hi' c hc => ?_⟩, fun RR KK => lm_e30_272 ?_⟩
    · by_cases c0 : i' = i
      · subst c0
        rw [v3 c hc, lm_bt_K hK (by omega), show T0 + 13 * (256 * i') + 13 * c = 8 * (32 * lm_xb s * (lm_dl s + lm_dk s) + 416 * i') + c * 13 by omega, lm_bt_sh2]
        unfold lm_zT
        rw [show 128 + (32 * lm_xb s * (lm_dl s + lm_dk s) + 416 * i') = lm_xb1 s + 416 * i' by omega]
      · rw [f3 _ (by omega) (by omega)]
        exact a4 i' (by omega) c hc
    · clear a4 v3 g4
      unfold lm_q30_272
      repeat (first
    | ((with_reducible apply lm_sI); exact rfl)
    | ((with_reducible apply lm_sR); exact rfl)
    | ((with_reducible apply lm_sS); exact rfl; exact rfl)
    | ((with_reducible apply lm_sL); exact rfl)
    | ((with_reducible apply lm_sP); exact rfl; exact rfl)
    | ((with_reducible apply lm_sPL); exact rfl; exact rfl)
    | ((with_reducible apply lm_sAA); exact rfl; exact rfl)
    | ((with_reducible apply lm_sA); (first | exact rfl | assumption); omega)
    | ((with_reducible apply lm_sJ); (first | exact rfl | assumption); omega)
    | ((with_reducible apply lm_sB); (first | exact rfl | assumption); omega)
    | ((with_reducible apply lm_wA); (first | exact rfl | assumption); omega)
    | ((with_reducible apply lm_wJ); (first | exact rfl | assumption); omega)
    | ((with_reducible apply lm_wB); (first | exact rfl | assumption); omega)
    | ((with_reducible apply lm_sAl); (first | exact rfl | assumption); omega)
    | ((with_reducible apply lm_iW); decide))
      simp only [Nat.reduceDiv, Nat.reduceMod]
      rw [a2 32 (by decide), hR.2.1]
      refine lm_geF (by omega) (by omega) (by omega) ?_
      rw [lm_K2, lm_K128, show Int32.ofInt 15 = Int32.ofNat 15 from rfl, lm_oo, lm_K13]
      repeat (first
    | ((with_reducible apply lm_sI); exact rfl)
    | ((with_reducible apply lm_sR); exact rfl)
    | ((with_reducible apply lm_sS); exact rfl; exact rfl)
    | ((with_reducible apply lm_sL); exact rfl)
    | ((with_reducible apply lm_sP); exact rfl; exact rfl)
    | ((with_reducible apply lm_sPL); exact rfl; exact rfl)
    | ((with_reducible apply lm_sAA); exact rfl; exact rfl)
    | ((with_reducible apply lm_sA); (first | exact rfl | assumption); omega)
    | ((with_reducible apply lm_sJ); (first | exact rfl | assumption); omega)
    | ((with_reducible apply lm_sB); (first | exact rfl | assumption); omega)
    | ((with_reducible apply lm_wA); (first | exact rfl | assumption); omega)
    | ((with_reducible apply lm_wJ); (first | exact rfl | assumption); omega)
    | ((with_reducible apply lm_wB); (first | exact rfl | assumption); omega)
    | ((with_reducible apply lm_sAl); (first | exact rfl | assumption); omega)
    | ((with_reducible apply lm_iW); decide))
      refine lm_sAA rfl (lm_roY (15 + i) (by omega)) ?_
      repeat (first
    | ((with_reducible apply lm_sI); exact rfl)
    | ((with_reducible apply lm_sR); exact rfl)
    | ((with_reducible apply lm_sS); exact rfl; exact rfl)
    | ((with_reducible apply lm_sL); exact rfl)
    | ((with_reducible apply lm_sP); exact rfl; exact rfl)
    | ((with_reducible apply lm_sPL); exact rfl; exact rfl)
    | ((with_reducible apply lm_sAA); exact rfl; exact rfl)
    | ((with_reducible apply lm_sA); (first | exact rfl | assumption); omega)
    | ((with_reducible apply lm_sJ); (first | exact rfl | assumption); omega)
    | ((with_reducible apply lm_sB); (first | exact rfl | assumption); omega)
    | ((with_reducible apply lm_wA); (first | exact rfl | assumption); omega)
    | ((with_reducible apply lm_wJ); (first | exact rfl | assumption); omega)
    | ((with_reducible apply lm_wB); (first | exact rfl | assumption); omega)
    | ((with_reducible apply lm_sAl); (first | exact rfl | assumption); omega)
    | ((with_reducible apply lm_iW); decide))
      refine lm_cV c3 ?_
      rw [lm_K1, lm_oo]
      exact KK) (lm_dk s) 0 (by omega) m1 n1 ⟨rfl, fun _ _ _ => rfl, g2, by rw [g3]; rfl, fun i' hi' => absurd hi' (by omega)⟩
  subst en
  refine ⟨m2, ⟨fun r q1 q2 => by rw [a1 r q1 (by omega), g1 r q1 (by omega)], a2, fun t ht c hc => by rw [a1 _ (by omega) (by omega)]; exact g4 t ht c hc, a4⟩, fun RR KK => lm_e30_215 ?_⟩
  clear g4 a4
  unfold lm_q30_215
  rw [lm_K0]
  repeat (first
    | ((with_reducible apply lm_sI); exact rfl)
    | ((with_reducible apply lm_sR); exact rfl)
    | ((with_reducible apply lm_sS); exact rfl; exact rfl)
    | ((with_reducible apply lm_sL); exact rfl)
    | ((with_reducible apply lm_sP); exact rfl; exact rfl)
    | ((with_reducible apply lm_sPL); exact rfl; exact rfl)
    | ((with_reducible apply lm_sAA); exact rfl; exact rfl)
    | ((with_reducible apply lm_sA); (first | exact rfl | assumption); omega)
    | ((with_reducible apply lm_sJ); (first | exact rfl | assumption); omega)
    | ((with_reducible apply lm_sB); (first | exact rfl | assumption); omega)
    | ((with_reducible apply lm_wA); (first | exact rfl | assumption); omega)
    | ((with_reducible apply lm_wJ); (first | exact rfl | assumption); omega)
    | ((with_reducible apply lm_wB); (first | exact rfl | assumption); omega)
    | ((with_reducible apply lm_sAl); (first | exact rfl | assumption); omega)
    | ((with_reducible apply lm_iW); decide))
  simp only [Nat.reduceDiv, Nat.reduceMod]
  rw [eM0]
  refine k1 RR (lm_e30_224 ?_)
  unfold lm_q30_224
  repeat (first
    | ((with_reducible apply lm_sI); exact rfl)
    | ((with_reducible apply lm_sR); exact rfl)
    | ((with_reducible apply lm_sS); exact rfl; exact rfl)
    | ((with_reducible apply lm_sL); exact rfl)
    | ((with_reducible apply lm_sP); exact rfl; exact rfl)
    | ((with_reducible apply lm_sPL); exact rfl; exact rfl)
    | ((with_reducible apply lm_sAA); exact rfl; exact rfl)
    | ((with_reducible apply lm_sA); (first | exact rfl | assumption); omega)
    | ((with_reducible apply lm_sJ); (first | exact rfl | assumption); omega)
    | ((with_reducible apply lm_sB); (first | exact rfl | assumption); omega)
    | ((with_reducible apply lm_wA); (first | exact rfl | assumption); omega)
    | ((with_reducible apply lm_wJ); (first | exact rfl | assumption); omega)
    | ((with_reducible apply lm_wB); (first | exact rfl | assumption); omega)
    | ((with_reducible apply lm_sAl); (first | exact rfl | assumption); omega)
    | ((with_reducible apply lm_iW); decide))
  simp only [Nat.reduceDiv, Nat.reduceMod]
  rw [g2 32 (by decide), g2 42 (by decide), hR.2.1, hR.2.2.1, lm_oo]
  refine lm_geT (by omega) (by omega) (by omega) ?_
  rw [lm_K0]
  refine k2 RR (lm_e30_272 ?_)
  unfold lm_q30_272
  repeat (first
    | ((with_reducible apply lm_sI); exact rfl)
    | ((with_reducible apply lm_sR); exact rfl)
    | ((with_reducible apply lm_sS); exact rfl; exact rfl)
    | ((with_reducible apply lm_sL); exact rfl)
    | ((with_reducible apply lm_sP); exact rfl; exact rfl)
    | ((with_reducible apply lm_sPL); exact rfl; exact rfl)
    | ((with_reducible apply lm_sAA); exact rfl; exact rfl)
    | ((with_reducible apply lm_sA); (first | exact rfl | assumption); omega)
    | ((with_reducible apply lm_sJ); (first | exact rfl | assumption); omega)
    | ((with_reducible apply lm_sB); (first | exact rfl | assumption); omega)
    | ((with_reducible apply lm_wA); (first | exact rfl | assumption); omega)
    | ((with_reducible apply lm_wJ); (first | exact rfl | assumption); omega)
    | ((with_reducible apply lm_wB); (first | exact rfl | assumption); omega)
    | ((with_reducible apply lm_sAl); (first | exact rfl | assumption); omega)
    | ((with_reducible apply lm_iW); decide))
  simp only [Nat.reduceDiv, Nat.reduceMod]
  rw [a2 32 (by decide), hR.2.1]
  refine lm_geT (by omega) (by omega) (by omega) ?_
  rw [lm_K0]
  exact KK
end LMSE2
