/-! ===== MGF1 of the class ===== -/
def lm_mg (T : lm_TB) (b : Nat) (h : lm_HV) (i : Nat) : Int32 := lm_ou T b (lm_rate b) (lm_hf T b (lm_rate b) (lm_hps T b (lm_rate b) (lm_ctr4 (Int32.ofNat (i / lm_dg b))) 4 0 h)).2.2.1 (i % lm_dg b)
def lm_fq (q : Nat) (m : lm_MI) (n : lm_ML) (m' : lm_MI) (n' : lm_ML) : Prop := (∀ p, p ≠ q → p < 5 ∨ 25 < p → m' p = m p) ∧ (∀ p, p < 5 ∨ 22 < p → n' p = n p) ∧ m' 11 1 = m 11 1 ∧ m' 17 1 = m 17 1
theorem lm_fq.tr {q : Nat} {m m1 m2 : lm_MI} {n n1 n2 : lm_ML} (h : lm_fq q m n m1 n1) (g : lm_fq q m1 n1 m2 n2) : lm_fq q m n m2 n2 := ⟨fun p a b => (g.1 p a b).trans (h.1 p a b), fun p a => (g.2.1 p a).trans (h.2.1 p a), g.2.2.1.trans h.2.2.1, g.2.2.2.trans h.2.2.2⟩
theorem lm_fC.q {q : Nat} {m m1 : lm_MI} {n n1 : lm_ML} (h : lm_fC m n m1 n1) : lm_fq q m n m1 n1 := ⟨fun p _ a => h.1 p (by omega), h.2.1, h.2.2.1, h.2.2.2⟩
section LMMG
variable {xs : List Int32} {d : Nat} {m : lm_MI} {n : lm_ML} {x : lm_H × Nat × Nat} {h : lm_HV} {T : lm_TB}
theorem lm_l142_11 {q v L : Nat} (hT : lm_Tok (lm_sc xs) T) (hq : q < 5 ∨ 25 < q) (har : lm_ar q = some (1, v)) (hL : L ≤ v) (hv : v ≤ 70000) (hf : h.1 < 64) : ∀ u j (M : lm_MI) (N : lm_ML), L ≤ j * 32 + u → j * 32 ≤ L + 64 → lm_KP11 M N h → M 11 1 = Int32.ofNat 64 → (∀ i, i < L → i < j * 32 → M q i = lm_mg T 1 h i) → lm_fq q m n M N → ∃ m' n', lm_rn (lm_sc xs) (d + 4) lm_m142.2.2.2.2.1 (lm_reg lm_m142.2.2.2.2.2) (25, [(0, .ref 4), (2, .ref q), (3, .int (Int32.ofNat L)), (4, .ref 11), (5, .int (Int32.ofNat 32)), (6, .int (Int32.ofNat (j * 32))), (7, .int (Int32.ofNat j))], []) (lm_w M N x) = some (.ok none, lm_w m' n' x) ∧ (∀ i, i < L → m' q i = lm_mg T 1 h i) ∧ lm_fq q m n m' n' := by
  intro u
  induction u with
  | zero =>
    intro j M N hu hj hK h1 hm hfr
    refine ⟨M, N, ?_, fun i hi => hm i hi (by omega), hfr⟩
    refine lm_e142_25 ?_
    unfold lm_q142_25
    exact lm_geT (by omega) (by omega) (by omega) rfl
  | succ u ih =>
    intro j M N hu hj hK h1 hm hfr
    by_cases c : L ≤ j * 32
    · refine ⟨M, N, ?_, fun i hi => hm i hi (by omega), hfr⟩
      refine lm_e142_25 ?_
      unfold lm_q142_25
      exact lm_geT (by omega) (by omega) (by omega) rfl
    · have hK1 : lm_KP11 (lm_pt M 25 0 (Int32.ofNat j)) N h := by
        obtain ⟨k1, k2, k3, k4⟩ := hK
        exact ⟨by rw [lm_pt_row (by decide)]; exact k1, k2, fun i hi => by rw [lm_pt_row (by decide)]; exact k3 i hi, fun i hi => by rw [lm_pt_row (by decide)]; exact k4 i hi⟩
      obtain ⟨m2, n2, e2, C2, t2, f2⟩ := lm_u210_11 (xs := xs) (d := d + 2) (x := x) (b := 1) (by decide) (by rw [lm_pt_row (by decide)]; exact h1) hf hK1
      obtain ⟨m3, n3, e3, C3, t3, f3⟩ := lm_u140_11 (sc := lm_sc xs) (d := d) (x := x) (q := 25) (v := 4) (a := 0) (l := 4) hT (by omega) rfl (by omega) (by omega) hf C2 t2
      have e25 : ∀ i, i < 4 → m2 25 i = lm_ctr4 (Int32.ofNat j) i := fun i hi => by
        rw [f2.1 25 (by omega)]
        exact lm_pt_ctr4 i hi
      have eh : lm_hps T 1 64 (fun i => lm_b8 (m2 25 i)) 4 0 h = lm_hps T 1 64 (lm_ctr4 (Int32.ofNat j)) 4 0 h := lm_hps_b8 (by decide) 4 0 h (fun i _ hi => by rw [lm_b8b, e25 i (by omega)])
      have t3' : n3 11 3 = (lm_hps T 1 64 (fun i => lm_b8 (m2 25 i)) 4 0 h).2.1 := by
        rw [t3]
        have aux : ∀ (g : Nat → Int32) c a (h : lm_HV), (lm_hps T 1 64 g c a h).2.1 = h.2.1 + Int64.ofNat c := by
          intro g c
          induction c with
          | zero => intro a h; show h.2.1 = h.2.1 + Int64.ofNat 0; simp
          | succ c ih =>
            intro a h
            refine (ih (a + 1) _).trans ?_
            have e : (lm_hp T 1 64 (g a) h).2.1 = h.2.1 + Int64.ofNat 1 := by
              unfold lm_hp
              by_cases c : h.1 + 1 = 64
              · rw [if_pos c]
              · rw [if_neg c]
            rw [e, Int64.add_assoc, ← Int64.ofNat_add, Nat.add_comm 1 c]
        exact (aux _ 4 0 h).symm
      obtain ⟨m4, n4, e4, f4⟩ := lm_u144 (sc := lm_sc xs) (d := d) (x := x) (q := q) (v := v) (a := j * 32) (l := min 32 (L - j * 32)) hT (by omega) har (by omega) hv (by omega) (lm_hps_f _ _ _ hf) C3 t3'
      rw [eh] at e4
      have fP : lm_fq q M N (lm_pt M 25 0 (Int32.ofNat j)) N := ⟨fun p _ hp => lm_pt_row (by omega), fun _ _ => rfl, by rw [lm_pt_row (by decide)], by rw [lm_pt_row (by decide)]⟩
      have fAll := (f2.tr f3).tr f4
      have fAC : lm_fC (lm_pt M 25 0 (Int32.ofNat j)) N m4 n4 := lm_fa.C (k := 1) (by decide) (by decide) fAll
      have eq4 : m4 q = M q := by rw [fAC.1 q (by omega), lm_pt_row (by omega)]
      have fF : ∀ g : Nat → Int32, lm_fq q m4 n4 (lm_fil m4 q (j * 32) (j * 32 + min 32 (L - j * 32)) g) n4 := fun g => ⟨fun p hp _ => lm_fl_row hp, fun _ _ => rfl, by rw [lm_fl_row (by omega)], by rw [lm_fl_row (by omega)]⟩
      have em : (j + 1) * 32 = j * 32 + 32 := by omega
      obtain ⟨m', n', e, K, f⟩ := ih (j + 1) (lm_fil m4 q (j * 32) (j * 32 + min 32 (L - j * 32)) (fun i => lm_o2 (lm_hf T 1 64 (lm_hps T 1 64 (lm_ctr4 (Int32.ofNat j)) 4 0 h)).2.2.1 (i - j * 32))) n4 (by omega) (by omega) (by
          obtain ⟨k1, k2, k3, k4⟩ := hK1.fa fAll
          exact ⟨by rw [lm_fl_row (by omega)]; exact k1, k2, fun i hi => by rw [lm_fl_row (by omega)]; exact k3 i hi, fun i hi => by rw [lm_fl_row (by omega)]; exact k4 i hi⟩)
        (by rw [lm_fl_row (by omega)]; exact (fAll.2.2.1 1 (by decide)).trans (by rw [lm_pt_row (by decide)]; exact h1))
        (fun i hi hi2 => by
          rw [lm_rf]
          by_cases ci : i < j * 32
          · rw [if_neg (by omega), eq4]
            exact hm i hi ci
          · rw [if_pos (by omega)]
            unfold lm_mg
            have d1 : i / lm_dg 1 = j := by show i / 32 = j; omega
            have d2 : i % lm_dg 1 = i - j * 32 := by show i % 32 = _; omega
            rw [d1, d2, show lm_rate 1 = 64 from rfl]
            unfold lm_ou
            rw [if_neg (by decide), if_pos rfl])
        (((hfr.tr fP).tr fAC.q).tr (fF _))
      refine ⟨m', n', ?_, K, f⟩
      refine lm_e142_25 ?_
      unfold lm_q142_25
      refine lm_geF (by omega) (by omega) c ?_
      rw [lm_K0, lm_K4]
      repeat (first
    | ((with_reducible apply lm_sI); exact rfl)
    | ((with_reducible apply lm_sR); exact rfl)
    | ((with_reducible apply lm_sS); exact rfl; exact rfl)
    | ((with_reducible apply lm_sL); exact rfl)
    | ((with_reducible apply lm_sP); exact rfl; exact rfl)
    | ((with_reducible apply lm_sPL); exact rfl; exact rfl)
    | ((with_reducible apply lm_sAA); exact rfl; first | exact rfl | exact lm_roO (by omega) | exact lm_roM (by omega))
    | ((with_reducible apply lm_sI); exact lm_fpL (by omega))
    | ((with_reducible apply lm_sR); exact lm_fpB (by omega))
    | ((with_reducible apply lm_sP); exact lm_fpL (by omega); exact rfl)
    | ((with_reducible apply lm_sS); exact lm_ocO (by omega); exact rfl)
    | ((with_reducible apply lm_sA); exact rfl; omega)
    | ((with_reducible apply lm_sJ); exact rfl; omega)
    | ((with_reducible apply lm_sB); (first | exact rfl | exact lm_arB (by omega) | exact lm_arM (by omega)); omega)
    | ((with_reducible apply lm_wA); exact rfl; omega)
    | ((with_reducible apply lm_wJ); exact rfl; omega)
    | ((with_reducible apply lm_wB); (first | exact rfl | exact lm_arB (by omega) | exact lm_arM (by omega)); omega)
    | ((with_reducible apply lm_sAl); (first | exact rfl | exact lm_arB (by omega) | exact lm_arM (by omega)); omega)
    | ((with_reducible apply lm_iW); decide))
      refine lm_cV (lm_u131 (d := d + 3) rfl (by decide)) ?_
      repeat (first
    | ((with_reducible apply lm_sI); exact rfl)
    | ((with_reducible apply lm_sR); exact rfl)
    | ((with_reducible apply lm_sS); exact rfl; exact rfl)
    | ((with_reducible apply lm_sL); exact rfl)
    | ((with_reducible apply lm_sP); exact rfl; exact rfl)
    | ((with_reducible apply lm_sPL); exact rfl; exact rfl)
    | ((with_reducible apply lm_sAA); exact rfl; first | exact rfl | exact lm_roO (by omega) | exact lm_roM (by omega))
    | ((with_reducible apply lm_sI); exact lm_fpL (by omega))
    | ((with_reducible apply lm_sR); exact lm_fpB (by omega))
    | ((with_reducible apply lm_sP); exact lm_fpL (by omega); exact rfl)
    | ((with_reducible apply lm_sS); exact lm_ocO (by omega); exact rfl)
    | ((with_reducible apply lm_sA); exact rfl; omega)
    | ((with_reducible apply lm_sJ); exact rfl; omega)
    | ((with_reducible apply lm_sB); (first | exact rfl | exact lm_arB (by omega) | exact lm_arM (by omega)); omega)
    | ((with_reducible apply lm_wA); exact rfl; omega)
    | ((with_reducible apply lm_wJ); exact rfl; omega)
    | ((with_reducible apply lm_wB); (first | exact rfl | exact lm_arB (by omega) | exact lm_arM (by omega)); omega)
    | ((with_reducible apply lm_sAl); (first | exact rfl | exact lm_arB (by omega) | exact lm_arM (by omega)); omega)
    | ((with_reducible apply lm_iW); decide))
      refine lm_cV e2 ?_
      repeat (first
    | ((with_reducible apply lm_sI); exact rfl)
    | ((with_reducible apply lm_sR); exact rfl)
    | ((with_reducible apply lm_sS); exact rfl; exact rfl)
    | ((with_reducible apply lm_sL); exact rfl)
    | ((with_reducible apply lm_sP); exact rfl; exact rfl)
    | ((with_reducible apply lm_sPL); exact rfl; exact rfl)
    | ((with_reducible apply lm_sAA); exact rfl; first | exact rfl | exact lm_roO (by omega) | exact lm_roM (by omega))
    | ((with_reducible apply lm_sI); exact lm_fpL (by omega))
    | ((with_reducible apply lm_sR); exact lm_fpB (by omega))
    | ((with_reducible apply lm_sP); exact lm_fpL (by omega); exact rfl)
    | ((with_reducible apply lm_sS); exact lm_ocO (by omega); exact rfl)
    | ((with_reducible apply lm_sA); exact rfl; omega)
    | ((with_reducible apply lm_sJ); exact rfl; omega)
    | ((with_reducible apply lm_sB); (first | exact rfl | exact lm_arB (by omega) | exact lm_arM (by omega)); omega)
    | ((with_reducible apply lm_wA); exact rfl; omega)
    | ((with_reducible apply lm_wJ); exact rfl; omega)
    | ((with_reducible apply lm_wB); (first | exact rfl | exact lm_arB (by omega) | exact lm_arM (by omega)); omega)
    | ((with_reducible apply lm_sAl); (first | exact rfl | exact lm_arB (by omega) | exact lm_arM (by omega)); omega)
    | ((with_reducible apply lm_iW); decide))
      refine lm_cV e3 ?_
      rw [lm_osu (show j * 32 ≤ L by omega)]
      refine lm_cI (lm_u205 (d := d + 3) (by omega) (by omega)) ?_
      repeat (first
    | ((with_reducible apply lm_sI); exact rfl)
    | ((with_reducible apply lm_sR); exact rfl)
    | ((with_reducible apply lm_sS); exact rfl; exact rfl)
    | ((with_reducible apply lm_sL); exact rfl)
    | ((with_reducible apply lm_sP); exact rfl; exact rfl)
    | ((with_reducible apply lm_sPL); exact rfl; exact rfl)
    | ((with_reducible apply lm_sAA); exact rfl; first | exact rfl | exact lm_roO (by omega) | exact lm_roM (by omega))
    | ((with_reducible apply lm_sI); exact lm_fpL (by omega))
    | ((with_reducible apply lm_sR); exact lm_fpB (by omega))
    | ((with_reducible apply lm_sP); exact lm_fpL (by omega); exact rfl)
    | ((with_reducible apply lm_sS); exact lm_ocO (by omega); exact rfl)
    | ((with_reducible apply lm_sA); exact rfl; omega)
    | ((with_reducible apply lm_sJ); exact rfl; omega)
    | ((with_reducible apply lm_sB); (first | exact rfl | exact lm_arB (by omega) | exact lm_arM (by omega)); omega)
    | ((with_reducible apply lm_wA); exact rfl; omega)
    | ((with_reducible apply lm_wJ); exact rfl; omega)
    | ((with_reducible apply lm_wB); (first | exact rfl | exact lm_arB (by omega) | exact lm_arM (by omega)); omega)
    | ((with_reducible apply lm_sAl); (first | exact rfl | exact lm_arB (by omega) | exact lm_arM (by omega)); omega)
    | ((with_reducible apply lm_iW); decide))
      refine lm_cV e4 ?_
      rw [lm_oo, ← em, show Int32.ofNat j + Int32.ofInt 1 = Int32.ofNat (j + 1) from lm_oa j 1]
      exact e
theorem lm_u142_11 {q v L : Nat} (hT : lm_Tok (lm_sc xs) T) (hq : q < 5 ∨ 25 < q) (har : lm_ar q = some (1, v)) (hL : L ≤ v) (hv : v ≤ 70000) (hf : h.1 < 64) (hC : lm_C11 m n 1 64 h) (ht : n 11 3 = h.2.1) : ∃ m' n', lm_cal (lm_sc xs) (d + 5) 142 [.ref 4, .int (Int32.ofNat 1), .ref q, .int (Int32.ofNat L)] (lm_w m n x) = some (.ok none, lm_w m' n' x) ∧ (∀ i, i < L → m' q i = lm_mg T 1 h i) ∧ lm_fq q m n m' n' := by
  obtain ⟨m1, n1, e1, K1, f1⟩ := lm_u209_11 (xs := xs) (d := d + 2) (x := x) hf hC ht
  have h1 : m1 11 1 = Int32.ofNat 64 := by
    obtain ⟨c1, c2, c5, c6, c7, c8⟩ := hC
    exact (f1.2.2.1).trans c5
  obtain ⟨m', n', e, K, f⟩ := lm_l142_11 (xs := xs) (d := d) (x := x) (m := m) (n := n) hT hq har hL hv hf L 0 m1 n1 (by omega) (by omega) K1 h1 (fun i _ hi => absurd hi (by omega)) f1.q
  refine ⟨m', n', ?_, K, f⟩
  refine lm_cal_of (Y := lm_m142) rfl rfl (lm_e142_0 ?_)
  unfold lm_q142_0
  repeat (first
    | ((with_reducible apply lm_sI); exact rfl)
    | ((with_reducible apply lm_sR); exact rfl)
    | ((with_reducible apply lm_sS); exact rfl; exact rfl)
    | ((with_reducible apply lm_sL); exact rfl)
    | ((with_reducible apply lm_sP); exact rfl; exact rfl)
    | ((with_reducible apply lm_sPL); exact rfl; exact rfl)
    | ((with_reducible apply lm_sAA); exact rfl; first | exact rfl | exact lm_roO (by omega) | exact lm_roM (by omega))
    | ((with_reducible apply lm_sI); exact lm_fpL (by omega))
    | ((with_reducible apply lm_sR); exact lm_fpB (by omega))
    | ((with_reducible apply lm_sP); exact lm_fpL (by omega); exact rfl)
    | ((with_reducible apply lm_sS); exact lm_ocO (by omega); exact rfl)
    | ((with_reducible apply lm_sA); exact rfl; omega)
    | ((with_reducible apply lm_sJ); exact rfl; omega)
    | ((with_reducible apply lm_sB); (first | exact rfl | exact lm_arB (by omega) | exact lm_arM (by omega)); omega)
    | ((with_reducible apply lm_wA); exact rfl; omega)
    | ((with_reducible apply lm_wJ); exact rfl; omega)
    | ((with_reducible apply lm_wB); (first | exact rfl | exact lm_arB (by omega) | exact lm_arM (by omega)); omega)
    | ((with_reducible apply lm_sAl); (first | exact rfl | exact lm_arB (by omega) | exact lm_arM (by omega)); omega)
    | ((with_reducible apply lm_iW); decide))
  refine lm_cR (lm_u204 (d := d + 3) (by decide) (by decide)) ?_
  refine lm_sSI (by decide) (by decide) ?_
  refine lm_sS (o := 11) rfl rfl ?_
  refine lm_cV e1 ?_
  exact e
theorem lm_l142_17 {q v L : Nat} (hT : lm_Tok (lm_sc xs) T) (hq : q < 5 ∨ 25 < q) (har : lm_ar q = some (1, v)) (hL : L ≤ v) (hv : v ≤ 70000) (hf : h.1 < 128) : ∀ u j (M : lm_MI) (N : lm_ML), L ≤ j * 64 + u → j * 64 ≤ L + 64 → lm_KP17 M N h → M 17 1 = Int32.ofNat 128 → (∀ i, i < L → i < j * 64 → M q i = lm_mg T 3 h i) → lm_fq q m n M N → ∃ m' n', lm_rn (lm_sc xs) (d + 4) lm_m142.2.2.2.2.1 (lm_reg lm_m142.2.2.2.2.2) (25, [(0, .ref 4), (2, .ref q), (3, .int (Int32.ofNat L)), (4, .ref 17), (5, .int (Int32.ofNat 64)), (6, .int (Int32.ofNat (j * 64))), (7, .int (Int32.ofNat j))], []) (lm_w M N x) = some (.ok none, lm_w m' n' x) ∧ (∀ i, i < L → m' q i = lm_mg T 3 h i) ∧ lm_fq q m n m' n' := by
  intro u
  induction u with
  | zero =>
    intro j M N hu hj hK h1 hm hfr
    refine ⟨M, N, ?_, fun i hi => hm i hi (by omega), hfr⟩
    refine lm_e142_25 ?_
    unfold lm_q142_25
    exact lm_geT (by omega) (by omega) (by omega) rfl
  | succ u ih =>
    intro j M N hu hj hK h1 hm hfr
    by_cases c : L ≤ j * 64
    · refine ⟨M, N, ?_, fun i hi => hm i hi (by omega), hfr⟩
      refine lm_e142_25 ?_
      unfold lm_q142_25
      exact lm_geT (by omega) (by omega) (by omega) rfl
    · have hK1 : lm_KP17 (lm_pt M 25 0 (Int32.ofNat j)) N h := by
        obtain ⟨k1, k2, k3, k4⟩ := hK
        exact ⟨by rw [lm_pt_row (by decide)]; exact k1, k2, fun i hi => by rw [lm_pt_row (by decide)]; exact k3 i hi, k4⟩
      obtain ⟨m2, n2, e2, C2, t2, f2⟩ := lm_u210_17 (xs := xs) (d := d + 2) (x := x) (b := 3) (by decide) (by rw [lm_pt_row (by decide)]; exact h1) hf hK1
      obtain ⟨m3, n3, e3, C3, t3, f3⟩ := lm_u140_17 (sc := lm_sc xs) (d := d) (x := x) (q := 25) (v := 4) (a := 0) (l := 4) hT (by omega) rfl (by omega) (by omega) hf C2 t2
      have e25 : ∀ i, i < 4 → m2 25 i = lm_ctr4 (Int32.ofNat j) i := fun i hi => by
        rw [f2.1 25 (by omega)]
        exact lm_pt_ctr4 i hi
      have eh : lm_hps T 3 128 (fun i => lm_b8 (m2 25 i)) 4 0 h = lm_hps T 3 128 (lm_ctr4 (Int32.ofNat j)) 4 0 h := lm_hps_b8 (by decide) 4 0 h (fun i _ hi => by rw [lm_b8b, e25 i (by omega)])
      have t3' : n3 17 3 = (lm_hps T 3 128 (fun i => lm_b8 (m2 25 i)) 4 0 h).2.1 := by
        rw [t3]
        have aux : ∀ (g : Nat → Int32) c a (h : lm_HV), (lm_hps T 3 128 g c a h).2.1 = h.2.1 + Int64.ofNat c := by
          intro g c
          induction c with
          | zero => intro a h; show h.2.1 = h.2.1 + Int64.ofNat 0; simp
          | succ c ih =>
            intro a h
            refine (ih (a + 1) _).trans ?_
            have e : (lm_hp T 3 128 (g a) h).2.1 = h.2.1 + Int64.ofNat 1 := by
              unfold lm_hp
              by_cases c : h.1 + 1 = 128
              · rw [if_pos c]
              · rw [if_neg c]
            rw [e, Int64.add_assoc, ← Int64.ofNat_add, Nat.add_comm 1 c]
        exact (aux _ 4 0 h).symm
      obtain ⟨m4, n4, e4, f4⟩ := lm_u145 (sc := lm_sc xs) (d := d) (x := x) (q := q) (v := v) (a := j * 64) (l := min 64 (L - j * 64)) hT (by omega) har (by omega) hv (by omega) (lm_hps_f _ _ _ hf) C3 t3'
      rw [eh] at e4
      have fP : lm_fq q M N (lm_pt M 25 0 (Int32.ofNat j)) N := ⟨fun p _ hp => lm_pt_row (by omega), fun _ _ => rfl, by rw [lm_pt_row (by decide)], by rw [lm_pt_row (by decide)]⟩
      have fAll := (f2.tr f3).tr f4
      have fAC : lm_fC (lm_pt M 25 0 (Int32.ofNat j)) N m4 n4 := lm_fa.C (k := 3) (by decide) (by decide) fAll
      have eq4 : m4 q = M q := by rw [fAC.1 q (by omega), lm_pt_row (by omega)]
      have fF : ∀ g : Nat → Int32, lm_fq q m4 n4 (lm_fil m4 q (j * 64) (j * 64 + min 64 (L - j * 64)) g) n4 := fun g => ⟨fun p hp _ => lm_fl_row hp, fun _ _ => rfl, by rw [lm_fl_row (by omega)], by rw [lm_fl_row (by omega)]⟩
      have em : (j + 1) * 64 = j * 64 + 64 := by omega
      obtain ⟨m', n', e, K, f⟩ := ih (j + 1) (lm_fil m4 q (j * 64) (j * 64 + min 64 (L - j * 64)) (fun i => lm_o5 (lm_hf T 3 128 (lm_hps T 3 128 (lm_ctr4 (Int32.ofNat j)) 4 0 h)).2.2.1 (i - j * 64))) n4 (by omega) (by omega) (by
          obtain ⟨k1, k2, k3, k4⟩ := hK1.fa fAll
          exact ⟨by rw [lm_fl_row (by omega)]; exact k1, k2, fun i hi => by rw [lm_fl_row (by omega)]; exact k3 i hi, k4⟩)
        (by rw [lm_fl_row (by omega)]; exact (fAll.2.2.1 1 (by decide)).trans (by rw [lm_pt_row (by decide)]; exact h1))
        (fun i hi hi2 => by
          rw [lm_rf]
          by_cases ci : i < j * 64
          · rw [if_neg (by omega), eq4]
            exact hm i hi ci
          · rw [if_pos (by omega)]
            unfold lm_mg
            have d1 : i / lm_dg 3 = j := by show i / 64 = j; omega
            have d2 : i % lm_dg 3 = i - j * 64 := by show i % 64 = _; omega
            rw [d1, d2, show lm_rate 3 = 128 from rfl]
            unfold lm_ou
            rw [if_neg (by decide), if_neg (by decide)])
        (((hfr.tr fP).tr fAC.q).tr (fF _))
      refine ⟨m', n', ?_, K, f⟩
      refine lm_e142_25 ?_
      unfold lm_q142_25
      refine lm_geF (by omega) (by omega) c ?_
      rw [lm_K0, lm_K4]
      repeat (first
    | ((with_reducible apply lm_sI); exact rfl)
    | ((with_reducible apply lm_sR); exact rfl)
    | ((with_reducible apply lm_sS); exact rfl; exact rfl)
    | ((with_reducible apply lm_sL); exact rfl)
    | ((with_reducible apply lm_sP); exact rfl; exact rfl)
    | ((with_reducible apply lm_sPL); exact rfl; exact rfl)
    | ((with_reducible apply lm_sAA); exact rfl; first | exact rfl | exact lm_roO (by omega) | exact lm_roM (by omega))
    | ((with_reducible apply lm_sI); exact lm_fpL (by omega))
    | ((with_reducible apply lm_sR); exact lm_fpB (by omega))
    | ((with_reducible apply lm_sP); exact lm_fpL (by omega); exact rfl)
    | ((with_reducible apply lm_sS); exact lm_ocO (by omega); exact rfl)
    | ((with_reducible apply lm_sA); exact rfl; omega)
    | ((with_reducible apply lm_sJ); exact rfl; omega)
    | ((with_reducible apply lm_sB); (first | exact rfl | exact lm_arB (by omega) | exact lm_arM (by omega)); omega)
    | ((with_reducible apply lm_wA); exact rfl; omega)
    | ((with_reducible apply lm_wJ); exact rfl; omega)
    | ((with_reducible apply lm_wB); (first | exact rfl | exact lm_arB (by omega) | exact lm_arM (by omega)); omega)
    | ((with_reducible apply lm_sAl); (first | exact rfl | exact lm_arB (by omega) | exact lm_arM (by omega)); omega)
    | ((with_reducible apply lm_iW); decide))
      refine lm_cV (lm_u131 (d := d + 3) rfl (by decide)) ?_
      repeat (first
    | ((with_reducible apply lm_sI); exact rfl)
    | ((with_reducible apply lm_sR); exact rfl)
    | ((with_reducible apply lm_sS); exact rfl; exact rfl)
    | ((with_reducible apply lm_sL); exact rfl)
    | ((with_reducible apply lm_sP); exact rfl; exact rfl)
    | ((with_reducible apply lm_sPL); exact rfl; exact rfl)
    | ((with_reducible apply lm_sAA); exact rfl; first | exact rfl | exact lm_roO (by omega) | exact lm_roM (by omega))
    | ((with_reducible apply lm_sI); exact lm_fpL (by omega))
    | ((with_reducible apply lm_sR); exact lm_fpB (by omega))
    | ((with_reducible apply lm_sP); exact lm_fpL (by omega); exact rfl)
    | ((with_reducible apply lm_sS); exact lm_ocO (by omega); exact rfl)
    | ((with_reducible apply lm_sA); exact rfl; omega)
    | ((with_reducible apply lm_sJ); exact rfl; omega)
    | ((with_reducible apply lm_sB); (first | exact rfl | exact lm_arB (by omega) | exact lm_arM (by omega)); omega)
    | ((with_reducible apply lm_wA); exact rfl; omega)
    | ((with_reducible apply lm_wJ); exact rfl; omega)
    | ((with_reducible apply lm_wB); (first | exact rfl | exact lm_arB (by omega) | exact lm_arM (by omega)); omega)
    | ((with_reducible apply lm_sAl); (first | exact rfl | exact lm_arB (by omega) | exact lm_arM (by omega)); omega)
    | ((with_reducible apply lm_iW); decide))
      refine lm_cV e2 ?_
      repeat (first
    | ((with_reducible apply lm_sI); exact rfl)
    | ((with_reducible apply lm_sR); exact rfl)
    | ((with_reducible apply lm_sS); exact rfl; exact rfl)
    | ((with_reducible apply lm_sL); exact rfl)
    | ((with_reducible apply lm_sP); exact rfl; exact rfl)
    | ((with_reducible apply lm_sPL); exact rfl; exact rfl)
    | ((with_reducible apply lm_sAA); exact rfl; first | exact rfl | exact lm_roO (by omega) | exact lm_roM (by omega))
    | ((with_reducible apply lm_sI); exact lm_fpL (by omega))
    | ((with_reducible apply lm_sR); exact lm_fpB (by omega))
    | ((with_reducible apply lm_sP); exact lm_fpL (by omega); exact rfl)
    | ((with_reducible apply lm_sS); exact lm_ocO (by omega); exact rfl)
    | ((with_reducible apply lm_sA); exact rfl; omega)
    | ((with_reducible apply lm_sJ); exact rfl; omega)
    | ((with_reducible apply lm_sB); (first | exact rfl | exact lm_arB (by omega) | exact lm_arM (by omega)); omega)
    | ((with_reducible apply lm_wA); exact rfl; omega)
    | ((with_reducible apply lm_wJ); exact rfl; omega)
    | ((with_reducible apply lm_wB); (first | exact rfl | exact lm_arB (by omega) | exact lm_arM (by omega)); omega)
    | ((with_reducible apply lm_sAl); (first | exact rfl | exact lm_arB (by omega) | exact lm_arM (by omega)); omega)
    | ((with_reducible apply lm_iW); decide))
      refine lm_cV e3 ?_
      rw [lm_osu (show j * 64 ≤ L by omega)]
      refine lm_cI (lm_u205 (d := d + 3) (by omega) (by omega)) ?_
      repeat (first
    | ((with_reducible apply lm_sI); exact rfl)
    | ((with_reducible apply lm_sR); exact rfl)
    | ((with_reducible apply lm_sS); exact rfl; exact rfl)
    | ((with_reducible apply lm_sL); exact rfl)
    | ((with_reducible apply lm_sP); exact rfl; exact rfl)
    | ((with_reducible apply lm_sPL); exact rfl; exact rfl)
    | ((with_reducible apply lm_sAA); exact rfl; first | exact rfl | exact lm_roO (by omega) | exact lm_roM (by omega))
    | ((with_reducible apply lm_sI); exact lm_fpL (by omega))
    | ((with_reducible apply lm_sR); exact lm_fpB (by omega))
    | ((with_reducible apply lm_sP); exact lm_fpL (by omega); exact rfl)
    | ((with_reducible apply lm_sS); exact lm_ocO (by omega); exact rfl)
    | ((with_reducible apply lm_sA); exact rfl; omega)
    | ((with_reducible apply lm_sJ); exact rfl; omega)
    | ((with_reducible apply lm_sB); (first | exact rfl | exact lm_arB (by omega) | exact lm_arM (by omega)); omega)
    | ((with_reducible apply lm_wA); exact rfl; omega)
    | ((with_reducible apply lm_wJ); exact rfl; omega)
    | ((with_reducible apply lm_wB); (first | exact rfl | exact lm_arB (by omega) | exact lm_arM (by omega)); omega)
    | ((with_reducible apply lm_sAl); (first | exact rfl | exact lm_arB (by omega) | exact lm_arM (by omega)); omega)
    | ((with_reducible apply lm_iW); decide))
      refine lm_cV e4 ?_
      rw [lm_oo, ← em, show Int32.ofNat j + Int32.ofInt 1 = Int32.ofNat (j + 1) from lm_oa j 1]
      exact e
theorem lm_u142_17 {q v L : Nat} (hT : lm_Tok (lm_sc xs) T) (hq : q < 5 ∨ 25 < q) (har : lm_ar q = some (1, v)) (hL : L ≤ v) (hv : v ≤ 70000) (hf : h.1 < 128) (hC : lm_C17 m n 3 128 h) (ht : n 17 3 = h.2.1) : ∃ m' n', lm_cal (lm_sc xs) (d + 5) 142 [.ref 4, .int (Int32.ofNat 3), .ref q, .int (Int32.ofNat L)] (lm_w m n x) = some (.ok none, lm_w m' n' x) ∧ (∀ i, i < L → m' q i = lm_mg T 3 h i) ∧ lm_fq q m n m' n' := by
  obtain ⟨m1, n1, e1, K1, f1⟩ := lm_u209_17 (xs := xs) (d := d + 2) (x := x) hf hC ht
  have h1 : m1 17 1 = Int32.ofNat 128 := by
    obtain ⟨c1, c2, c5, c6, c7, c8⟩ := hC
    exact (f1.2.2.2).trans c5
  obtain ⟨m', n', e, K, f⟩ := lm_l142_17 (xs := xs) (d := d) (x := x) (m := m) (n := n) hT hq har hL hv hf L 0 m1 n1 (by omega) (by omega) K1 h1 (fun i _ hi => absurd hi (by omega)) f1.q
  refine ⟨m', n', ?_, K, f⟩
  refine lm_cal_of (Y := lm_m142) rfl rfl (lm_e142_0 ?_)
  unfold lm_q142_0
  repeat (first
    | ((with_reducible apply lm_sI); exact rfl)
    | ((with_reducible apply lm_sR); exact rfl)
    | ((with_reducible apply lm_sS); exact rfl; exact rfl)
    | ((with_reducible apply lm_sL); exact rfl)
    | ((with_reducible apply lm_sP); exact rfl; exact rfl)
    | ((with_reducible apply lm_sPL); exact rfl; exact rfl)
    | ((with_reducible apply lm_sAA); exact rfl; first | exact rfl | exact lm_roO (by omega) | exact lm_roM (by omega))
    | ((with_reducible apply lm_sI); exact lm_fpL (by omega))
    | ((with_reducible apply lm_sR); exact lm_fpB (by omega))
    | ((with_reducible apply lm_sP); exact lm_fpL (by omega); exact rfl)
    | ((with_reducible apply lm_sS); exact lm_ocO (by omega); exact rfl)
    | ((with_reducible apply lm_sA); exact rfl; omega)
    | ((with_reducible apply lm_sJ); exact rfl; omega)
    | ((with_reducible apply lm_sB); (first | exact rfl | exact lm_arB (by omega) | exact lm_arM (by omega)); omega)
    | ((with_reducible apply lm_wA); exact rfl; omega)
    | ((with_reducible apply lm_wJ); exact rfl; omega)
    | ((with_reducible apply lm_wB); (first | exact rfl | exact lm_arB (by omega) | exact lm_arM (by omega)); omega)
    | ((with_reducible apply lm_sAl); (first | exact rfl | exact lm_arB (by omega) | exact lm_arM (by omega)); omega)
    | ((with_reducible apply lm_iW); decide))
  refine lm_cR (lm_u204 (d := d + 3) (by decide) (by decide)) ?_
  refine lm_sSI (by decide) (by decide) ?_
  refine lm_sS (o := 17) rfl rfl ?_
  refine lm_cV e1 ?_
  exact e
end LMMG
