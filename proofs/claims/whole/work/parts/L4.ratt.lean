/-! ===== an attempt of the reference: the masks, the rows ===== -/
theorem lm_yT_as2 {A : Nat → Nat → Nat → Int} {V W : Nat → Nat → Int} {l i c : Nat} (hW : ∀ t, t < l → ∀ c, c < 256 → ln_cg 8380417 (W t c) (ln_pt (V t) c)) : lm_ut (lm_as W (fun t c => A i t c) l) c % 8380417 = lm_yT A V l i c := by
  unfold lm_yT
  exact (lm_ut_cg (fun c hc => (lm_as_cg l).tr (lm_sg_cg fun t ht => ((hW t ht c hc).mu ln_cg.rf).tr (.of (Int.mul_comm _ _)))) c).eq
section LMRX
variable {sc : lm_H} {C : lm_CX} {d s j : Nat} {m m0 : lm_MI} {n n0 : lm_ML} {x : lm_H × Nat × Nat} {K U V : Nat → Int32}
/-- the masks -/
theorem lm_l99a (hs : s ≤ 2) (hR : lm_RD C s m n) (hE : lm_RE s m) (hU : ∀ i, i < 64 → lm_b8 (m 331 i) = lm_b8 (U i)) (hj : j + 7 ≤ 60000) : ∃ m' n', ((∀ r, r ≠ 203 → r ≠ 227 → r ≠ 327 → (r < 293 ∨ 299 < r) → m' r = m r) ∧ lm_fB m n m' n' ∧ ∀ t, t < lm_dl s → ∀ c, c < 256 → m' (270 + (23 + t)) c = Int32.ofInt (lm_aY C U s j t c)) ∧ ∀ R, lm_rn sc (d + 6) lm_m99.2.2.2.2.1 (lm_reg lm_m99.2.2.2.2.2) (2, [(0, .ref 203), (1, .int (Int32.ofNat j)), (2, .int (Int32.ofNat (lm_dl s)))], []) (lm_w m' n' x) = some R → lm_rn sc (d + 6) lm_m99.2.2.2.2.1 (lm_reg lm_m99.2.2.2.2.2) (2, [(0, .ref 203), (1, .int (Int32.ofNat j)), (2, .int (Int32.ofNat 0))], []) (lm_w m n x) = some R := by
  have hkl := lm_dkl hs
  have hpar := lm_dpar s hs
  refine lm_lp (sc := sc) (d := d + 6) (b := lm_dl s) (hs := lm_m99.2.2.2.2.1) (code := lm_reg lm_m99.2.2.2.2.2) (x := x) (fr := fun t => (2, [(0, .ref 203), (1, .int (Int32.ofNat j)), (2, .int (Int32.ofNat t))], [])) (I := fun t m' n' => (∀ r, r ≠ 203 → r ≠ 227 → r ≠ 327 → (r < 293 ∨ 299 < r) → m' r = m r) ∧ lm_fB m n m' n' ∧ ∀ t', t' < t → ∀ c, c < 256 → m' (270 + (23 + t')) c = Int32.ofInt (lm_aY C U s j t' c)) (fun t ht m1 n1 ⟨g1, g2, g3⟩ => ?_) (lm_dl s) 0 (by omega) m n ⟨fun _ _ _ _ _ => rfl, .of rfl, fun t' ht' => absurd ht' (by omega)⟩
  have R1 : lm_RD C s m1 n1 := hR.keep g2 (g1 221 (by decide) (by decide) (by decide) (by decide)) (g1 268 (by decide) (by decide) (by decide) (by decide))
  have E1 : lm_RE s m1 := hE.of fun j a b => g2.1 j (by omega) (by omega) (by omega) (by omega)
  generalize eG : ln_g6 U 0 (Int32.ofNat (j + t)) = G
  obtain ⟨m2, n2, c2, s2, f2⟩ := lm_rS (sc := sc) (d := d + 4) (m := m1) (n := n1) (x := x) (k := 12) (G := G) R1.1 (by decide) (by decide)
  have C2 := f2.cx.trans R1.1
  obtain ⟨m3, n3, c3, s3, f3⟩ := lm_rA (sc := sc) (d := d + 2) (m := m2) (n := n2) (x := x) (k := 12) (q := 331) (v := 64) (a := 0) (l := 64) (L := 0) (G := G) C2 (by decide) (by decide) rfl (by decide) (by decide) (fun u hu => by
    rw [f2.1 331 (by decide) (by decide), g1 331 (by decide) (by decide) (by decide) (by decide), Nat.zero_add, hU u hu, ← eG, ln_g6, if_pos hu, Nat.zero_add]) s2
  have C3 := f3.cx.trans C2
  obtain ⟨m4, n4, c4, s4, f4⟩ := lm_rB (sc := sc) (d := d + 3) (m := m3) (n := n3) (x := x) (k := 12) (w := Int32.ofNat (j + t)) (L := 0 + 64) (G := G) C3 (by decide) (by rw [← eG, ln_g6, if_neg (by decide), if_pos rfl]) s3
  have C4 := f4.cx.trans C3
  obtain ⟨m5, n5, c5, s5, f5⟩ := lm_rB (sc := sc) (d := d + 3) (m := m4) (n := n4) (x := x) (k := 12) (w := (Int32.ofNat (j + t)) >>> ((Int32.ofInt 8) &&& 31)) (L := 0 + 64 + 1) (G := G) C4 (by decide) (by rw [← eG, ln_g6, if_neg (by decide), if_neg (by decide)]) s4
  have C5 := f5.cx.trans C4
  have F5 := f2.tr (f3.tr (f4.tr f5))
  obtain ⟨m6, n6, c6, f6⟩ := lm_rG (sc := sc) (d := d + 1) (m := m5) (n := n5) (x := x) (k := 12) (q := 327) (v := 16384) (a := 0) (l := 32 * lm_dw s) C5 (by decide) (by decide) rfl (by omega) (by decide) (fun h => absurd h (by decide)) s5
  have F6 := F5.tr f6
  generalize eM7 : lm_fil m6 327 0 (0 + 32 * lm_dw s) (fun i => lm_Hm C 12 G (0 + 64 + 1 + 1) (i - 0)) = M7 at c6
  have r7 : ∀ r, r ≠ 327 → M7 r = m6 r := fun r hr => by rw [← eM7, lm_fl_row hr]
  generalize eM8 : lm_u M7 203 24 (Int32.ofNat 0) = M8
  have r8 : ∀ r, r ≠ 203 → M8 r = M7 r := fun r hr => by rw [← eM8, lm_u_row hr]
  have q8 : ∀ j, j ≠ 18 → j ≠ 19 → j ≠ 20 → j ≠ 24 → M8 203 j = m1 203 j := fun j j1 j2 j3 j4 => by rw [← eM8, lm_u_ne (fun g => j4 g.2), r7 203 (by decide), F6.2.1 j j1 j2 j3]
  have E8 : lm_RE s M8 := E1.of fun j a b => q8 j (by omega) (by omega) (by omega) (by omega)
  have aY := lm_arY (23 + t) (by omega)
  obtain ⟨m9, c9, f9, g9, t9, v9⟩ := lm_u98 (sc := sc) (d := d + 3) (m := M8) (n := n6) (x := x) (q := 327) (v := 16384) (p := 270 + (23 + t)) (a := 0) (T := 0) (bits := lm_dw s) (Bd := (lm_dg1 s : Int)) rfl (by decide) aY (by omega) (by rw [← eM8, lm_u_eq]) (by omega) (by decide) (by omega) (by decide)
  refine ⟨m9, n6, ⟨fun r q1 q2 q3 q4 => by rw [f9 r q1 (by omega), r8 r q1, r7 r q3, F6.1 r q1 q2, g1 r q1 q2 q3 q4], g2.tr ⟨fun j j1 j2 j3 j4 => by rw [g9 j j4, q8 j j1 j2 j3 j4], F6.G.2⟩, fun t' ht' c hc => ?_⟩, fun R KK => lm_e99_2 ?_⟩
  · by_cases c0 : t' = t
    · subst c0
      rw [v9 c hc]
      have eb : ln_bv (ln_bt (fun j => M8 327 (0 + j))) (0 + lm_dw s * c) (lm_dw s) = ln_bv (ln_bt (lm_Hm C 12 G 66)) (c * lm_dw s) (lm_dw s) := by
        rw [Nat.zero_add, Nat.mul_comm]
        refine lm_bv_ext fun u hu => ?_
        unfold ln_bt
        have hb : c * lm_dw s + u < 256 * lm_dw s := by
          have : c * lm_dw s + lm_dw s ≤ 256 * lm_dw s := by
            rw [← Nat.succ_mul]
            exact Nat.mul_le_mul_right _ hc
          omega
        show (lm_yb (M8 327 (0 + (c * lm_dw s + u) / 8))).testBit _ = _
        rw [r8 327 (by decide), ← eM7, lm_fl_in (by omega), Nat.sub_zero, Nat.zero_add ((c * lm_dw s + u) / 8), show 0 + 64 + 1 + 1 = 66 from rfl]
      rw [eb]
      unfold lm_aY lm_zY
      rw [eG]
    · rw [f9 _ (by omega) (by omega), r8 _ (by omega), r7 _ (by omega), F6.1 _ (by omega) (by omega)]
      exact g3 t' (by omega) c hc
  · clear g3 v9 s2 s3 s4 s5
    have e1 : ∀ M : lm_MI, (∀ j, j ≠ 18 → j ≠ 19 → j ≠ 20 → M 203 j = m1 203 j) → M 203 49 = Int32.ofNat (lm_dw s) := fun M e => by rw [e 49 (by decide) (by decide) (by decide)]; exact E1.2.2.2.2.2
    unfold lm_q99_2
    repeat (first
    | ((with_reducible apply lm_sI); exact rfl)
    | ((with_reducible apply lm_sR); exact rfl)
    | ((with_reducible apply lm_sS); exact rfl; exact rfl)
    | ((with_reducible apply lm_sL); exact rfl)
    | ((with_reducible apply lm_sP); exact rfl; exact rfl)
    | ((with_reducible apply lm_sPL); exact rfl; exact rfl)
    | ((with_reducible apply lm_sAA); exact rfl; exact rfl)
    | ((with_reducible apply lm_sA); (first | exact rfl | assumption); omega)
    | ((with_reducible apply lm_sJ); (first | exact rfl | assumption); omega)
    | ((with_reducible apply lm_sB); (first | exact rfl | assumption); omega)
    | ((with_reducible apply lm_wA); (first | exact rfl | assumption); omega)
    | ((with_reducible apply lm_wJ); (first | exact rfl | assumption); omega)
    | ((with_reducible apply lm_wB); (first | exact rfl | assumption); omega)
    | ((with_reducible apply lm_sAl); (first | exact rfl | assumption); omega)
    | ((with_reducible apply lm_iW); decide))
    simp only [Nat.reduceDiv, Nat.reduceMod]
    rw [R1.2.2.1]
    refine lm_geF (by omega) (by omega) (by omega) ?_
    rw [lm_K12, lm_K0, lm_K64, lm_K32, show Int32.ofInt 23 = Int32.ofNat 23 from rfl, lm_oo, lm_oo]
    repeat (first
    | ((with_reducible apply lm_sI); exact rfl)
    | ((with_reducible apply lm_sR); exact rfl)
    | ((with_reducible apply lm_sS); exact rfl; exact rfl)
    | ((with_reducible apply lm_sL); exact rfl)
    | ((with_reducible apply lm_sP); exact rfl; exact rfl)
    | ((with_reducible apply lm_sPL); exact rfl; exact rfl)
    | ((with_reducible apply lm_sAA); exact rfl; exact rfl)
    | ((with_reducible apply lm_sA); (first | exact rfl | assumption); omega)
    | ((with_reducible apply lm_sJ); (first | exact rfl | assumption); omega)
    | ((with_reducible apply lm_sB); (first | exact rfl | assumption); omega)
    | ((with_reducible apply lm_wA); (first | exact rfl | assumption); omega)
    | ((with_reducible apply lm_wJ); (first | exact rfl | assumption); omega)
    | ((with_reducible apply lm_wB); (first | exact rfl | assumption); omega)
    | ((with_reducible apply lm_sAl); (first | exact rfl | assumption); omega)
    | ((with_reducible apply lm_iW); decide))
    refine lm_cV c2 ?_
    repeat (first
    | ((with_reducible apply lm_sI); exact rfl)
    | ((with_reducible apply lm_sR); exact rfl)
    | ((with_reducible apply lm_sS); exact rfl; exact rfl)
    | ((with_reducible apply lm_sL); exact rfl)
    | ((with_reducible apply lm_sP); exact rfl; exact rfl)
    | ((with_reducible apply lm_sPL); exact rfl; exact rfl)
    | ((with_reducible apply lm_sAA); exact rfl; exact rfl)
    | ((with_reducible apply lm_sA); (first | exact rfl | assumption); omega)
    | ((with_reducible apply lm_sJ); (first | exact rfl | assumption); omega)
    | ((with_reducible apply lm_sB); (first | exact rfl | assumption); omega)
    | ((with_reducible apply lm_wA); (first | exact rfl | assumption); omega)
    | ((with_reducible apply lm_wJ); (first | exact rfl | assumption); omega)
    | ((with_reducible apply lm_wB); (first | exact rfl | assumption); omega)
    | ((with_reducible apply lm_sAl); (first | exact rfl | assumption); omega)
    | ((with_reducible apply lm_iW); decide))
    refine lm_cV c3 ?_
    repeat (first
    | ((with_reducible apply lm_sI); exact rfl)
    | ((with_reducible apply lm_sR); exact rfl)
    | ((with_reducible apply lm_sS); exact rfl; exact rfl)
    | ((with_reducible apply lm_sL); exact rfl)
    | ((with_reducible apply lm_sP); exact rfl; exact rfl)
    | ((with_reducible apply lm_sPL); exact rfl; exact rfl)
    | ((with_reducible apply lm_sAA); exact rfl; exact rfl)
    | ((with_reducible apply lm_sA); (first | exact rfl | assumption); omega)
    | ((with_reducible apply lm_sJ); (first | exact rfl | assumption); omega)
    | ((with_reducible apply lm_sB); (first | exact rfl | assumption); omega)
    | ((with_reducible apply lm_wA); (first | exact rfl | assumption); omega)
    | ((with_reducible apply lm_wJ); (first | exact rfl | assumption); omega)
    | ((with_reducible apply lm_wB); (first | exact rfl | assumption); omega)
    | ((with_reducible apply lm_sAl); (first | exact rfl | assumption); omega)
    | ((with_reducible apply lm_iW); decide))
    refine lm_cV c4 ?_
    repeat (first
    | ((with_reducible apply lm_sI); exact rfl)
    | ((with_reducible apply lm_sR); exact rfl)
    | ((with_reducible apply lm_sS); exact rfl; exact rfl)
    | ((with_reducible apply lm_sL); exact rfl)
    | ((with_reducible apply lm_sP); exact rfl; exact rfl)
    | ((with_reducible apply lm_sPL); exact rfl; exact rfl)
    | ((with_reducible apply lm_sAA); exact rfl; exact rfl)
    | ((with_reducible apply lm_sA); (first | exact rfl | assumption); omega)
    | ((with_reducible apply lm_sJ); (first | exact rfl | assumption); omega)
    | ((with_reducible apply lm_sB); (first | exact rfl | assumption); omega)
    | ((with_reducible apply lm_wA); (first | exact rfl | assumption); omega)
    | ((with_reducible apply lm_wJ); (first | exact rfl | assumption); omega)
    | ((with_reducible apply lm_wB); (first | exact rfl | assumption); omega)
    | ((with_reducible apply lm_sAl); (first | exact rfl | assumption); omega)
    | ((with_reducible apply lm_iW); decide))
    refine lm_cV c5 ?_
    repeat (first
    | ((with_reducible apply lm_sI); exact rfl)
    | ((with_reducible apply lm_sR); exact rfl)
    | ((with_reducible apply lm_sS); exact rfl; exact rfl)
    | ((with_reducible apply lm_sL); exact rfl)
    | ((with_reducible apply lm_sP); exact rfl; exact rfl)
    | ((with_reducible apply lm_sPL); exact rfl; exact rfl)
    | ((with_reducible apply lm_sAA); exact rfl; exact rfl)
    | ((with_reducible apply lm_sA); (first | exact rfl | assumption); omega)
    | ((with_reducible apply lm_sJ); (first | exact rfl | assumption); omega)
    | ((with_reducible apply lm_sB); (first | exact rfl | assumption); omega)
    | ((with_reducible apply lm_wA); (first | exact rfl | assumption); omega)
    | ((with_reducible apply lm_wJ); (first | exact rfl | assumption); omega)
    | ((with_reducible apply lm_wB); (first | exact rfl | assumption); omega)
    | ((with_reducible apply lm_sAl); (first | exact rfl | assumption); omega)
    | ((with_reducible apply lm_iW); decide))
    simp only [Nat.reduceDiv, Nat.reduceMod]
    rw [e1 m5 F5.2.1, lm_om]
    refine lm_cV c6 ?_
    repeat (first
    | ((with_reducible apply lm_sI); exact rfl)
    | ((with_reducible apply lm_sR); exact rfl)
    | ((with_reducible apply lm_sS); exact rfl; exact rfl)
    | ((with_reducible apply lm_sL); exact rfl)
    | ((with_reducible apply lm_sP); exact rfl; exact rfl)
    | ((with_reducible apply lm_sPL); exact rfl; exact rfl)
    | ((with_reducible apply lm_sAA); exact rfl; exact rfl)
    | ((with_reducible apply lm_sA); (first | exact rfl | assumption); omega)
    | ((with_reducible apply lm_sJ); (first | exact rfl | assumption); omega)
    | ((with_reducible apply lm_sB); (first | exact rfl | assumption); omega)
    | ((with_reducible apply lm_wA); (first | exact rfl | assumption); omega)
    | ((with_reducible apply lm_wJ); (first | exact rfl | assumption); omega)
    | ((with_reducible apply lm_wB); (first | exact rfl | assumption); omega)
    | ((with_reducible apply lm_sAl); (first | exact rfl | assumption); omega)
    | ((with_reducible apply lm_iW); decide))
    simp only [Nat.reduceDiv, Nat.reduceMod]
    rw [eM8]
    refine lm_sAA rfl (lm_roY (23 + t) (by omega)) ?_
    repeat (first
    | ((with_reducible apply lm_sI); exact rfl)
    | ((with_reducible apply lm_sR); exact rfl)
    | ((with_reducible apply lm_sS); exact rfl; exact rfl)
    | ((with_reducible apply lm_sL); exact rfl)
    | ((with_reducible apply lm_sP); exact rfl; exact rfl)
    | ((with_reducible apply lm_sPL); exact rfl; exact rfl)
    | ((with_reducible apply lm_sAA); exact rfl; exact rfl)
    | ((with_reducible apply lm_sA); (first | exact rfl | assumption); omega)
    | ((with_reducible apply lm_sJ); (first | exact rfl | assumption); omega)
    | ((with_reducible apply lm_sB); (first | exact rfl | assumption); omega)
    | ((with_reducible apply lm_wA); (first | exact rfl | assumption); omega)
    | ((with_reducible apply lm_wJ); (first | exact rfl | assumption); omega)
    | ((with_reducible apply lm_wB); (first | exact rfl | assumption); omega)
    | ((with_reducible apply lm_sAl); (first | exact rfl | assumption); omega)
    | ((with_reducible apply lm_iW); decide))
    simp only [Nat.reduceDiv, Nat.reduceMod]
    rw [E8.2.1, E8.2.2.2.2.2, lm_oN (lm_dg1 s)]
    refine lm_cV c9 ?_
    rw [lm_K1, lm_oo]
    exact KK
/-- a mask's remainders -/
theorem lm_l99b {i t : Nat} {Y : Nat → Int} (ht : t < 7) (hY : ∀ c, c < 256 → m (270 + (23 + t)) c = Int32.ofInt (Y c) ∧ -8000000 ≤ Y c ∧ Y c ≤ 8000000) : ∃ m', ((∀ r, r ≠ 316 → m' r = m r) ∧ ∀ c, c < 256 → m' 316 c = Int32.ofInt (Y c % 8380417)) ∧ ∀ R, lm_rn sc (d + 6) lm_m99.2.2.2.2.1 (lm_reg lm_m99.2.2.2.2.2) (132, [(0, .ref 203), (2, .int (Int32.ofNat i)), (3, .int (Int32.ofNat t)), (4, .int (Int32.ofNat 256))], []) (lm_w m' n x) = some R → lm_rn sc (d + 6) lm_m99.2.2.2.2.1 (lm_reg lm_m99.2.2.2.2.2) (132, [(0, .ref 203), (2, .int (Int32.ofNat i)), (3, .int (Int32.ofNat t)), (4, .int (Int32.ofNat 0))], []) (lm_w m n x) = some R := by
  have aY := lm_arY (23 + t) (by omega)
  obtain ⟨m', n', ⟨en, g1, g2⟩, k1⟩ := lm_lp (sc := sc) (d := d + 6) (b := 256) (hs := lm_m99.2.2.2.2.1) (code := lm_reg lm_m99.2.2.2.2.2) (x := x) (fr := fun c => (132, [(0, .ref 203), (2, .int (Int32.ofNat i)), (3, .int (Int32.ofNat t)), (4, .int (Int32.ofNat c))], [])) (I := fun c m' n' => n' = n ∧ (∀ r, r ≠ 316 → m' r = m r) ∧ ∀ c', c' < c → m' 316 c' = Int32.ofInt (Y c' % 8380417)) (fun c hc m1 n1 ⟨en, g1, g2⟩ => by
    have hy := hY c hc
    have ev : lm_rem (m1 (270 + (23 + t)) c + Int32.ofInt 8380417) (Int32.ofInt 8380417) = Int32.ofInt (Y c % 8380417) := by
      rw [g1 _ (by omega), hy.1, lm_iA, lm_iR (by omega) (by omega) (by decide) (by decide), Int.tmod_eq_emod_of_nonneg (by omega), Int.add_emod_right]
    refine ⟨lm_u m1 316 c (Int32.ofInt (Y c % 8380417)), n1, ⟨en, fun r hr => (lm_u_row hr).trans (g1 r hr), fun c' hc' => ?_⟩, fun R K => lm_e99_132 ?_⟩
    · by_cases c0 : c' = c
      · subst c0; rw [lm_u_eq]
      · rw [lm_u_ne (fun g => c0 g.2)]; exact g2 c' (by omega)
    · clear g2 hY
      unfold lm_q99_132
      rw [lm_K256]
      refine lm_geF (by omega) (by omega) (by omega) ?_
      rw [show Int32.ofInt 46 = Int32.ofNat 46 from rfl, show Int32.ofInt 23 = Int32.ofNat 23 from rfl, lm_oo]
      repeat (first
    | ((with_reducible apply lm_sI); exact rfl)
    | ((with_reducible apply lm_sR); exact rfl)
    | ((with_reducible apply lm_sS); exact rfl; exact rfl)
    | ((with_reducible apply lm_sL); exact rfl)
    | ((with_reducible apply lm_sP); exact rfl; exact rfl)
    | ((with_reducible apply lm_sPL); exact rfl; exact rfl)
    | ((with_reducible apply lm_sAA); exact rfl; exact rfl)
    | ((with_reducible apply lm_sA); (first | exact rfl | assumption); omega)
    | ((with_reducible apply lm_sJ); (first | exact rfl | assumption); omega)
    | ((with_reducible apply lm_sB); (first | exact rfl | assumption); omega)
    | ((with_reducible apply lm_wA); (first | exact rfl | assumption); omega)
    | ((with_reducible apply lm_wJ); (first | exact rfl | assumption); omega)
    | ((with_reducible apply lm_wB); (first | exact rfl | assumption); omega)
    | ((with_reducible apply lm_sAl); (first | exact rfl | assumption); omega)
    | ((with_reducible apply lm_iW); decide))
      refine lm_sAA rfl (lm_roY (23 + t) (by omega)) ?_
      repeat (first
    | ((with_reducible apply lm_sI); exact rfl)
    | ((with_reducible apply lm_sR); exact rfl)
    | ((with_reducible apply lm_sS); exact rfl; exact rfl)
    | ((with_reducible apply lm_sL); exact rfl)
    | ((with_reducible apply lm_sP); exact rfl; exact rfl)
    | ((with_reducible apply lm_sPL); exact rfl; exact rfl)
    | ((with_reducible apply lm_sAA); exact rfl; exact rfl)
    | ((with_reducible apply lm_sA); (first | exact rfl | assumption); omega)
    | ((with_reducible apply lm_sJ); (first | exact rfl | assumption); omega)
    | ((with_reducible apply lm_sB); (first | exact rfl | assumption); omega)
    | ((with_reducible apply lm_wA); (first | exact rfl | assumption); omega)
    | ((with_reducible apply lm_wJ); (first | exact rfl | assumption); omega)
    | ((with_reducible apply lm_wB); (first | exact rfl | assumption); omega)
    | ((with_reducible apply lm_sAl); (first | exact rfl | assumption); omega)
    | ((with_reducible apply lm_iW); decide))
      rw [ev, lm_K1, lm_oo]
      exact K) 256 0 (by omega) m n ⟨rfl, fun _ _ => rfl, fun c' hc' => absurd hc' (by omega)⟩
  subst en
  exact ⟨m', ⟨g1, g2⟩, k1⟩
/-- a row's sum -/
def lm_I121 (C : lm_CX) (K : Nat → Int32) (W : Nat → Nat → Int) (i : Nat) (m0 : lm_MI) (n0 : lm_ML) (t : Nat) (m : lm_MI) (n : lm_ML) : Prop := (∀ r, r ≠ 203 → r ≠ 227 → r ≠ 270 + (30 + i) → r ≠ 316 → r ≠ 317 → m r = m0 r) ∧ lm_fB m0 n0 m n ∧ m 203 24 = m0 203 24 ∧ (∀ t', t' < t → (lm_xA C K 0 i t').1 = 256) ∧ ∀ c, c < 256 → m (270 + (30 + i)) c = Int32.ofInt (lm_as W (fun t c => lm_xAm C K i t c) t c)
def lm_E121 (C : lm_CX) (K : Nat → Int32) (l i : Nat) (m0 : lm_MI) (n0 : lm_ML) (x : lm_H × Nat × Nat) (R : Except Nat lm_R × lm_S) : Prop := ∃ m n, R = (.ok (some (.int (Int32.ofInt (-1)))), lm_w m n x) ∧ (∀ r, r ≠ 203 → r ≠ 227 → r ≠ 270 + (30 + i) → r ≠ 316 → r ≠ 317 → m r = m0 r) ∧ lm_fB m0 n0 m n ∧ ∃ t, t < l ∧ (lm_xA C K 0 i t).1 ≠ 256
theorem lm_l99c {i : Nat} {Y : Nat → Nat → Int} (hs : s ≤ 2) (hi : i < lm_dk s) (hR : lm_RD C s m n) (hK : ∀ u, u < 32 → lm_b8 (m 208 u) = lm_b8 (K u)) (hY : ∀ t, t < lm_dl s → ∀ c, c < 256 → m (270 + (23 + t)) c = Int32.ofInt (Y t c) ∧ -8000000 ≤ Y t c ∧ Y t c ≤ 8000000) (hZ : ∀ c, c < 256 → m (270 + (30 + i)) c = Int32.ofInt 0) : (∃ m' n', lm_I121 C K (fun t c => ln_pt (fun c => Y t c % 8380417) c % 8380417) i m n (lm_dl s) m' n' ∧ ∀ R, lm_rn sc (d + 6) lm_m99.2.2.2.2.1 (lm_reg lm_m99.2.2.2.2.2) (121, [(0, .ref 203), (2, .int (Int32.ofNat i)), (3, .int (Int32.ofNat (lm_dl s)))], []) (lm_w m' n' x) = some R → lm_rn sc (d + 6) lm_m99.2.2.2.2.1 (lm_reg lm_m99.2.2.2.2.2) (121, [(0, .ref 203), (2, .int (Int32.ofNat i)), (3, .int (Int32.ofNat 0))], []) (lm_w m n x) = some R) ∨ ∃ R, lm_E121 C K (lm_dl s) i m n x R ∧ lm_rn sc (d + 6) lm_m99.2.2.2.2.1 (lm_reg lm_m99.2.2.2.2.2) (121, [(0, .ref 203), (2, .int (Int32.ofNat i)), (3, .int (Int32.ofNat 0))], []) (lm_w m n x) = some R := by
  have hkl := lm_dkl hs
  have aZ := lm_arY (30 + i) (by omega)
  refine lm_lpe (sc := sc) (d := d + 6) (b := lm_dl s) (hs := lm_m99.2.2.2.2.1) (code := lm_reg lm_m99.2.2.2.2.2) (x := x) (fr := fun t => (121, [(0, .ref 203), (2, .int (Int32.ofNat i)), (3, .int (Int32.ofNat t))], [])) (I := fun t m' n' => lm_I121 C K (fun t c => ln_pt (fun c => Y t c % 8380417) c % 8380417) i m n t m' n') (E := lm_E121 C K (lm_dl s) i m n x) (fun t ht m1 n1 ⟨g1, g2, g3, g4, g5⟩ => ?_) (lm_dl s) 0 (by omega) m n ⟨fun _ _ _ _ _ _ => rfl, .of rfl, rfl, fun t' ht' => absurd ht' (by omega), hZ⟩
  have R1 : lm_RD C s m1 n1 := hR.keep g2 (g1 221 (by decide) (by decide) (by omega) (by decide) (by decide)) (g1 268 (by decide) (by decide) (by omega) (by decide) (by decide))
  obtain ⟨m2, ⟨a1, a2⟩, k2⟩ := lm_l99b (sc := sc) (d := d) (m := m1) (n := n1) (x := x) (i := i) (t := t) (Y := Y t) (by omega) (fun c hc => by rw [g1 _ (by omega) (by omega) (by omega) (by omega) (by omega)]; exact hY t ht c hc)
  obtain ⟨m3, n3, c3, p3, q3⟩ := lm_u90 (sc := sc) (d := d + 4) (m := m2) (n := n1) (x := x) (p := 316) (G := fun c => Y t c % 8380417) rfl (fun u hu => by rw [a1 268 (by decide)]; exact R1.2.2.2.2 u hu) (fun c hc => ⟨Int.emod_nonneg _ (by decide), lm_le6 (Int.emod_lt_of_pos _ (by decide))⟩) a2
  have e203 : m3 203 = m1 203 := by rw [p3.1 203 (by decide), a1 203 (by decide)]
  have B3 : lm_fB m1 n1 m3 n3 := ⟨fun j _ _ _ _ => by rw [e203], fun q _ _ _ _ _ g => q3 q g⟩
  have C3 : lm_cx m3 n3 = C := (B3.cx (by rw [p3.1 221 (by decide), a1 221 (by decide)])).trans R1.1
  have e3 : ∀ r, r ≠ 316 → m3 r = m1 r := fun r hr => by rw [p3.1 r hr, a1 r hr]
  obtain ⟨m4, n4, c4, f4, g4', v4⟩ := lm_u91 (sc := sc) (d := d + 1) (m := m3) (n := n3) (x := x) (p := 317) (q := 208) (v := 65536) (a := 0) (w1 := Int32.ofNat t) (w2 := Int32.ofNat i) C3 rfl (by decide) rfl (by decide) (by decide) (by decide)
  have eK : lm_dw' (lm_B11 C (ln_gs (m3 208) 0 (Int32.ofNat t) (Int32.ofNat i))) 298 = lm_xA C K 0 i t := by
    rw [lm_xA_e, lm_gs_ext (K' := K) (a' := 0) (fun u hu => by rw [Nat.zero_add, e3 208 (by decide), g1 208 (by decide) (by decide) (by omega) (by decide) (by decide)]; exact hK u hu)]
  rw [eK] at c4 v4
  have pre : ∀ R, lm_bind (lm_asI (lm_cal sc (d + 6) 91 [.ref 203, .ref 317, .ref 208, .int (Int32.ofNat 0), .int (Int32.ofNat t), .int (Int32.ofNat i)])) (fun v9 => lm_if .ne v9 0 (lm_bind (lm_gR 4554 203) fun v10 => lm_bind (lm_aaR sc v10 (Int32.ofNat (30 + i))) fun v11 => lm_bind (lm_gR 4554 203) fun v12 => lm_bind (lm_aaR sc v12 (Int32.ofNat 46)) fun v13 => lm_bind (lm_gR 4554 203) fun v14 => lm_bind (lm_aaR sc v14 (Int32.ofNat 47)) fun v15 => lm_bind (lm_asV (lm_cal sc (d + 6) 92 [.ref v11, .ref v13, .ref v15])) fun _ => lm_rn sc (d + 6) lm_m99.2.2.2.2.1 (lm_reg lm_m99.2.2.2.2.2) (121, [(0, .ref 203), (2, .int (Int32.ofNat i)), (3, .int (Int32.ofNat t + Int32.ofInt 1))], [])) (lm_ret (some (.int (Int32.ofInt (-1)))))) (lm_w m3 n3 x) = some R → lm_rn sc (d + 6) lm_m99.2.2.2.2.1 (lm_reg lm_m99.2.2.2.2.2) (121, [(0, .ref 203), (2, .int (Int32.ofNat i)), (3, .int (Int32.ofNat t))], []) (lm_w m1 n1 x) = some R := by
    intro R KK
    clear c4 v4 g4 eK g5
    refine lm_e99_121 ?_
    unfold lm_q99_121
    repeat (first
    | ((with_reducible apply lm_sI); exact rfl)
    | ((with_reducible apply lm_sR); exact rfl)
    | ((with_reducible apply lm_sS); exact rfl; exact rfl)
    | ((with_reducible apply lm_sL); exact rfl)
    | ((with_reducible apply lm_sP); exact rfl; exact rfl)
    | ((with_reducible apply lm_sPL); exact rfl; exact rfl)
    | ((with_reducible apply lm_sAA); exact rfl; exact rfl)
    | ((with_reducible apply lm_sA); (first | exact rfl | assumption); omega)
    | ((with_reducible apply lm_sJ); (first | exact rfl | assumption); omega)
    | ((with_reducible apply lm_sB); (first | exact rfl | assumption); omega)
    | ((with_reducible apply lm_wA); (first | exact rfl | assumption); omega)
    | ((with_reducible apply lm_wJ); (first | exact rfl | assumption); omega)
    | ((with_reducible apply lm_wB); (first | exact rfl | assumption); omega)
    | ((with_reducible apply lm_sAl); (first | exact rfl | assumption); omega)
    | ((with_reducible apply lm_iW); decide))
    simp only [Nat.reduceDiv, Nat.reduceMod]
    rw [R1.2.2.1]
    refine lm_geF (by omega) (by omega) (by omega) ?_
    rw [lm_K0]
    refine k2 R (lm_e99_132 ?_)
    unfold lm_q99_132
    rw [lm_K256]
    refine lm_geT (by omega) (by omega) (by omega) ?_
    rw [show Int32.ofInt 46 = Int32.ofNat 46 from rfl, show Int32.ofInt 47 = Int32.ofNat 47 from rfl, show Int32.ofInt 30 = Int32.ofNat 30 from rfl, lm_K2, lm_K0, lm_oo]
    repeat (first
    | ((with_reducible apply lm_sI); exact rfl)
    | ((with_reducible apply lm_sR); exact rfl)
    | ((with_reducible apply lm_sS); exact rfl; exact rfl)
    | ((with_reducible apply lm_sL); exact rfl)
    | ((with_reducible apply lm_sP); exact rfl; exact rfl)
    | ((with_reducible apply lm_sPL); exact rfl; exact rfl)
    | ((with_reducible apply lm_sAA); exact rfl; exact rfl)
    | ((with_reducible apply lm_sA); (first | exact rfl | assumption); omega)
    | ((with_reducible apply lm_sJ); (first | exact rfl | assumption); omega)
    | ((with_reducible apply lm_sB); (first | exact rfl | assumption); omega)
    | ((with_reducible apply lm_wA); (first | exact rfl | assumption); omega)
    | ((with_reducible apply lm_wJ); (first | exact rfl | assumption); omega)
    | ((with_reducible apply lm_wB); (first | exact rfl | assumption); omega)
    | ((with_reducible apply lm_sAl); (first | exact rfl | assumption); omega)
    | ((with_reducible apply lm_iW); decide))
    refine lm_cV c3 ?_
    repeat (first
    | ((with_reducible apply lm_sI); exact rfl)
    | ((with_reducible apply lm_sR); exact rfl)
    | ((with_reducible apply lm_sS); exact rfl; exact rfl)
    | ((with_reducible apply lm_sL); exact rfl)
    | ((with_reducible apply lm_sP); exact rfl; exact rfl)
    | ((with_reducible apply lm_sPL); exact rfl; exact rfl)
    | ((with_reducible apply lm_sAA); exact rfl; exact rfl)
    | ((with_reducible apply lm_sA); (first | exact rfl | assumption); omega)
    | ((with_reducible apply lm_sJ); (first | exact rfl | assumption); omega)
    | ((with_reducible apply lm_sB); (first | exact rfl | assumption); omega)
    | ((with_reducible apply lm_wA); (first | exact rfl | assumption); omega)
    | ((with_reducible apply lm_wJ); (first | exact rfl | assumption); omega)
    | ((with_reducible apply lm_wB); (first | exact rfl | assumption); omega)
    | ((with_reducible apply lm_sAl); (first | exact rfl | assumption); omega)
    | ((with_reducible apply lm_iW); decide))
    exact KK
  by_cases c : (lm_xA C K 0 i t).1 = 256
  · rw [decide_eq_true c] at c4
    have v5 : ∀ cc, cc < 256 → m4 317 cc = Int32.ofInt (lm_xAm C K i t cc) := fun cc hcc => by
      rw [v4 cc (by rw [c]; exact hcc), lm_oN, lm_xAm_e]
    have ba : lm_bnd 8380416 (fun cc => lm_xAm C K i t cc) := fun cc hcc => by
      have := lm_xA_lt c hcc
      show -8380416 ≤ lm_xAm C K i t cc ∧ lm_xAm C K i t cc ≤ 8380416
      rw [lm_xAm_e]
      generalize (lm_xA C K 0 i t).2 cc = z at this
      omega
    have bw : lm_bnd 8380416 (fun cc => ln_pt (fun c => Y t c % 8380417) cc % 8380417) := fun cc hcc => by
      have b1 := Int.emod_nonneg (ln_pt (fun c => Y t c % 8380417) cc) (show (8380417 : Int) ≠ 0 by decide)
      have b2 := Int.emod_lt_of_pos (ln_pt (fun c => Y t c % 8380417) cc) (show (0 : Int) < 8380417 by decide)
      show -8380416 ≤ ln_pt (fun c => Y t c % 8380417) cc % 8380417 ∧ ln_pt (fun c => Y t c % 8380417) cc % 8380417 ≤ 8380416
      generalize ln_pt (fun c => Y t c % 8380417) cc % 8380417 = z at b1 b2
      omega
    obtain ⟨m5, c5, p5⟩ := lm_u92 (sc := sc) (d := d + 5) (m0 := m4) (m := m4) (n := n4) (x := x) (p := 270 + (30 + i)) (f := 316) (g := 317) (S := lm_as (fun t c => ln_pt (fun c => Y t c % 8380417) c % 8380417) (fun t c => lm_xAm C K i t c) t) (F := fun cc => ln_pt (fun c => Y t c % 8380417) cc % 8380417) (H := fun cc => lm_xAm C K i t cc) aZ rfl rfl (by omega) (by omega) ⟨fun _ _ => rfl, fun cc hcc => by rw [f4 _ (by omega) (by omega) (by omega), e3 _ (by omega)]; exact g5 cc hcc⟩ (fun cc hcc => by rw [f4 316 (by decide) (by decide) (by decide)]; exact p3.2 cc hcc) v5 (lm_as_b t) bw ba
    refine Or.inl ⟨m5, n4, ⟨fun r q1 q2 q3' q4 q5 => by rw [p5.1 r q3', f4 r q1 q2 q5, e3 r q4, g1 r q1 q2 q3' q4 q5], ?_, ?_, fun t' ht' => ?_, p5.2⟩, fun R KK => pre R (lm_cI c4 ?_)⟩
    · exact g2.tr (B3.tr (g4'.B.tr (.of (p5.1 203 (by omega)))))
    · rw [p5.1 203 (by omega), g4'.1 24 (by decide) (by decide) (by decide), e203, g3]
    · by_cases c0 : t' = t
      · subst c0; exact c
      · exact g4 t' (by omega)
    · clear v4 g4 c ba bw v5 eK g5
      refine lm_iT (show ¬ (1 : Int32) = 0 by decide) ?_
      repeat (first
    | ((with_reducible apply lm_sI); exact rfl)
    | ((with_reducible apply lm_sR); exact rfl)
    | ((with_reducible apply lm_sS); exact rfl; exact rfl)
    | ((with_reducible apply lm_sL); exact rfl)
    | ((with_reducible apply lm_sP); exact rfl; exact rfl)
    | ((with_reducible apply lm_sPL); exact rfl; exact rfl)
    | ((with_reducible apply lm_sAA); exact rfl; exact rfl)
    | ((with_reducible apply lm_sA); (first | exact rfl | assumption); omega)
    | ((with_reducible apply lm_sJ); (first | exact rfl | assumption); omega)
    | ((with_reducible apply lm_sB); (first | exact rfl | assumption); omega)
    | ((with_reducible apply lm_wA); (first | exact rfl | assumption); omega)
    | ((with_reducible apply lm_wJ); (first | exact rfl | assumption); omega)
    | ((with_reducible apply lm_wB); (first | exact rfl | assumption); omega)
    | ((with_reducible apply lm_sAl); (first | exact rfl | assumption); omega)
    | ((with_reducible apply lm_iW); decide))
      refine lm_sAA rfl (lm_roY (30 + i) (by omega)) ?_
      repeat (first
    | ((with_reducible apply lm_sI); exact rfl)
    | ((with_reducible apply lm_sR); exact rfl)
    | ((with_reducible apply lm_sS); exact rfl; exact rfl)
    | ((with_reducible apply lm_sL); exact rfl)
    | ((with_reducible apply lm_sP); exact rfl; exact rfl)
    | ((with_reducible apply lm_sPL); exact rfl; exact rfl)
    | ((with_reducible apply lm_sAA); exact rfl; exact rfl)
    | ((with_reducible apply lm_sA); (first | exact rfl | assumption); omega)
    | ((with_reducible apply lm_sJ); (first | exact rfl | assumption); omega)
    | ((with_reducible apply lm_sB); (first | exact rfl | assumption); omega)
    | ((with_reducible apply lm_wA); (first | exact rfl | assumption); omega)
    | ((with_reducible apply lm_wJ); (first | exact rfl | assumption); omega)
    | ((with_reducible apply lm_wB); (first | exact rfl | assumption); omega)
    | ((with_reducible apply lm_sAl); (first | exact rfl | assumption); omega)
    | ((with_reducible apply lm_iW); decide))
      refine lm_cV c5 ?_
      rw [lm_K1, lm_oo]
      exact KK
  · rw [decide_eq_false c] at c4
    refine Or.inr ⟨_, ⟨m4, n4, rfl, fun r q1 q2 q3' q4 q5 => by rw [f4 r q1 q2 q5, e3 r q4, g1 r q1 q2 q3' q4 q5], g2.tr (B3.tr g4'.B), t, ht, c⟩, pre _ (lm_cI c4 ?_)⟩
    exact lm_iF (show ¬ ¬ (0 : Int32) = 0 by decide) rfl
end LMRX
